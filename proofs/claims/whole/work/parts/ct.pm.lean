/-! ===== the law: its cases ===== -/
theorem lCmp_self {x : BitVec 64} : w32 (lCmp x x) = 0 := by
  unfold lCmp
  rw [if_neg (Int.lt_irrefl _)]
  first | rfl | (rw [if_neg (Int.lt_irrefl _)]; rfl) | (rw [if_pos rfl]; rfl)
theorem XI_ok {hp : HP} {n : Nat} {G : BitVec 64} {z : Int} {c : Nat} {ks : List Int} {es : List Int} {ik : Bool} {kn : Nat} {kG : BitVec 64} {kz : Int} {kc : Nat} {kks : List Int} {kes : List Int} {tc : Nat} {tb : List Int} {sc : Nat} {tl : List Int} {so : List Int} {le : List Int} {it : Nat → List (BitVec 64)} {he : List Int} {th : List Int} {sl : List Int} {tr : Nat} {bo : List Int} (hX : XI hp n G z c ks es ik kn kG kz kc kks kes tc tb sc tl so le it he th sl tr bo) : mkOK c ks es ∧ shOK so le it ∧ slOK he th sl ∧ stOK sc tl ∧ tr ≤ 30 ∧ (byOK tb (bO tb) ∧ tc ≤ 200) ∧ kpOK kn := by
  obtain ⟨ra, ts, q0, q1, q2, q3, q4, q5, q6, q7, q8, q9, q10, q11, qk⟩ := hX
  obtain ⟨b9, k9, m9, nu9, q9⟩ := q9
  obtain ⟨-, t1, b, t2⟩ := q3
  exact ⟨q2.2, q7.2, q8.2, q6.2, q9.2.2.2, ⟨bO_ok t2, t1⟩, qk⟩
set_option maxHeartbeats 16000000 in
theorem lw_2 {scr : List Int} {R : PO} {i : Nat} {B : BU} {hp : HP} {n : Nat} {G : BitVec 64} {z : Int} {c : Nat} {ks : List Int} {es : List Int} {ik : Bool} {kn : Nat} {kG : BitVec 64} {kz : Int} {kc : Nat} {kks : List Int} {kes : List Int} {tc : Nat} {tb : List Int} {sc : Nat} {tl : List Int} {so : List Int} {le : List Int} {it : Nat → List (BitVec 64)} {he : List Int} {th : List Int} {sl : List Int} {tr : Nat} {bo : List Int} (h : WLS hp n G z c ks es ik kn kG kz kc kks kes tc tb sc tl so le it he th sl tr bo) (hs : WSC scr i) (nx : WNX scr R (i + 6) B) : AW 1000 scr 302 R 66 [some (mS 9), some (mR 0), some (mR 54), some (mI (i : Int))] [] hp B := by
  have c0 := (WLS_c h).1
  have OK := XI_ok h.1
  have n16 := h.2.1.1.2
  have hX := h.1
  have hM := h.2.1
  have w := fun k => hs.2.2 (i + k)
  have e1 : (i : Int) + 1 = ((i + 1 : Nat) : Int) := rfl
  have e2 : (i : Int) + 2 = ((i + 2 : Nat) : Int) := rfl
  have e6 : (i : Int) + 6 = ((i + 6 : Nat) : Int) := rfl
  have st9 : stab scr 9 = scr := rfl
  have P1 := fun R => x10_meet 900 hX (w 1) (w 2) R
  have M1 := hM
  have X1 := hX
  have L1 := h.2.2.2.2.2
  have a1 := MI_ws M1
  have c1 := a1.2.2.2.1
  have hA := a1.2.2.2.2.1
  have hG := a1.2.2.2.2.2
  have P2 := fun R => m_meet 900 hA.1 (w 1) (w 2) R
  have M2 := M1
  have X2 := X1
  have L2 := L1
  simp only [AW_k, AWk_1, x_aload_1, x_aloads_1, x_aload_0, x_aloads_0, x_iload_3, x_push_i, x_push_l, x_iadd, x_iald, x_ialds, x_callv_3, x_aload_2, x_aloads_2, x_icmp_eq, x_ret, x_ret_i, x_ret_z, x_ret_l, x_ret_c, x_iinc_3, x_goto, unl_i, unl_l, unl_q, unl_r, unl_s, unl_n, k_L_law_66, k_L_law_67, k_L_law_68, k_L_law_69, k_L_law_70, k_L_law_71, k_L_law_72, k_L_law_73, k_L_law_74, k_L_law_75, k_L_law_76, k_L_law_77, k_L_law_78, k_L_law_79, k_L_law_80, k_L_law_81, k_L_law_82, k_L_law_83, k_L_law_84, k_L_law_85, k_L_law_86, k_L_law_87, k_L_law_88, k_L_law_89, k_L_law_90, k_L_law_91, k_L_law_92, k_L_law_1316, k_L_law_1317, oE_some, Int.reduceToNat, Nat.reduceAdd, true_and, and_true, List.length_cons, List.length_nil, Option.toList_some, Option.toList_none, List.cons_append, List.nil_append, Nat.reduceLeDiff, Nat.le_refl, wdS_nil, wdS_i, wdS_l, wdS_r, wdS_n, wdS_s, c0, c1, st9, e1, (WSC_c hs 1 (by decide)).1, (WSC_c hs 1 (by decide)).2, e2, (WSC_c hs 2 (by decide)).1, (WSC_c hs 2 (by decide)).2, P1, P2, e6, lCmp_self, ↓reduceIte]
  exact nx hp (WSI_of ⟨X2, M2, h.2.2.1, h.2.2.2.1, h.2.2.2.2.1, L2⟩)
set_option maxHeartbeats 16000000 in
theorem lw_3 {scr : List Int} {R : PO} {i : Nat} {B : BU} {hp : HP} {n : Nat} {G : BitVec 64} {z : Int} {c : Nat} {ks : List Int} {es : List Int} {ik : Bool} {kn : Nat} {kG : BitVec 64} {kz : Int} {kc : Nat} {kks : List Int} {kes : List Int} {tc : Nat} {tb : List Int} {sc : Nat} {tl : List Int} {so : List Int} {le : List Int} {it : Nat → List (BitVec 64)} {he : List Int} {th : List Int} {sl : List Int} {tr : Nat} {bo : List Int} (h : WLS hp n G z c ks es ik kn kG kz kc kks kes tc tb sc tl so le it he th sl tr bo) (hs : WSC scr i) (nx : WNX scr R (i + 6) B) : AW 1000 scr 302 R 93 [some (mS 9), some (mR 0), some (mR 54), some (mI (i : Int))] [] hp B := by
  have c0 := (WLS_c h).1
  have OK := XI_ok h.1
  have n16 := h.2.1.1.2
  have hX := h.1
  have hM := h.2.1
  have w := fun k => hs.2.2 (i + k)
  have e1 : (i : Int) + 1 = ((i + 1 : Nat) : Int) := rfl
  have e2 : (i : Int) + 2 = ((i + 2 : Nat) : Int) := rfl
  have e6 : (i : Int) + 6 = ((i + 6 : Nat) : Int) := rfl
  have st9 : stab scr 9 = scr := rfl
  have P1 := fun R => x10_join 900 hX (w 1) (w 2) R
  have M1 := hM
  have X1 := hX
  have L1 := h.2.2.2.2.2
  have a1 := MI_ws M1
  have c1 := a1.2.2.2.1
  have hA := a1.2.2.2.2.1
  have hG := a1.2.2.2.2.2
  have P2 := fun R => m_join 900 hA.1 (w 1) (w 2) R
  have M2 := M1
  have X2 := X1
  have L2 := L1
  simp only [AW_k, AWk_1, x_aload_1, x_aloads_1, x_aload_0, x_aloads_0, x_iload_3, x_push_i, x_push_l, x_iadd, x_iald, x_ialds, x_callv_3, x_aload_2, x_aloads_2, x_icmp_eq, x_ret, x_ret_i, x_ret_z, x_ret_l, x_ret_c, x_iinc_3, x_goto, unl_i, unl_l, unl_q, unl_r, unl_s, unl_n, k_L_law_93, k_L_law_94, k_L_law_95, k_L_law_96, k_L_law_97, k_L_law_98, k_L_law_99, k_L_law_100, k_L_law_101, k_L_law_102, k_L_law_103, k_L_law_104, k_L_law_105, k_L_law_106, k_L_law_107, k_L_law_108, k_L_law_109, k_L_law_110, k_L_law_111, k_L_law_112, k_L_law_113, k_L_law_114, k_L_law_115, k_L_law_116, k_L_law_117, k_L_law_118, k_L_law_119, k_L_law_1316, k_L_law_1317, oE_some, Int.reduceToNat, Nat.reduceAdd, true_and, and_true, List.length_cons, List.length_nil, Option.toList_some, Option.toList_none, List.cons_append, List.nil_append, Nat.reduceLeDiff, Nat.le_refl, wdS_nil, wdS_i, wdS_l, wdS_r, wdS_n, wdS_s, c0, c1, st9, e1, (WSC_c hs 1 (by decide)).1, (WSC_c hs 1 (by decide)).2, e2, (WSC_c hs 2 (by decide)).1, (WSC_c hs 2 (by decide)).2, P1, P2, e6, lCmp_self, ↓reduceIte]
  exact nx hp (WSI_of ⟨X2, M2, h.2.2.1, h.2.2.2.1, h.2.2.2.2.1, L2⟩)
set_option maxHeartbeats 16000000 in
theorem lw_4 {scr : List Int} {R : PO} {i : Nat} {B : BU} {hp : HP} {n : Nat} {G : BitVec 64} {z : Int} {c : Nat} {ks : List Int} {es : List Int} {ik : Bool} {kn : Nat} {kG : BitVec 64} {kz : Int} {kc : Nat} {kks : List Int} {kes : List Int} {tc : Nat} {tb : List Int} {sc : Nat} {tl : List Int} {so : List Int} {le : List Int} {it : Nat → List (BitVec 64)} {he : List Int} {th : List Int} {sl : List Int} {tr : Nat} {bo : List Int} (h : WLS hp n G z c ks es ik kn kG kz kc kks kes tc tb sc tl so le it he th sl tr bo) (hs : WSC scr i) (nx : WNX scr R (i + 6) B) : AW 1000 scr 302 R 120 [some (mS 9), some (mR 0), some (mR 54), some (mI (i : Int))] [] hp B := by
  have c0 := (WLS_c h).1
  have OK := XI_ok h.1
  have n16 := h.2.1.1.2
  have hX := h.1
  have hM := h.2.1
  have w := fun k => hs.2.2 (i + k)
  have e1 : (i : Int) + 1 = ((i + 1 : Nat) : Int) := rfl
  have e2 : (i : Int) + 2 = ((i + 2 : Nat) : Int) := rfl
  have e6 : (i : Int) + 6 = ((i + 6 : Nat) : Int) := rfl
  have st9 : stab scr 9 = scr := rfl
  have P1 := fun R => x10_of 900 hX (w 1) (w 2) R
  have M1 := hM
  have X1 := hX
  have L1 := h.2.2.2.2.2
  have a1 := MI_ws M1
  have c1 := a1.2.2.2.1
  have hA := a1.2.2.2.2.1
  have hG := a1.2.2.2.2.2
  have P2 := fun R => m_of 900 hA.1 (w 1) (w 2) R
  have M2 := M1
  have X2 := X1
  have L2 := L1
  simp only [AW_k, AWk_1, x_aload_1, x_aloads_1, x_aload_0, x_aloads_0, x_iload_3, x_push_i, x_push_l, x_iadd, x_iald, x_ialds, x_callv_3, x_aload_2, x_aloads_2, x_icmp_eq, x_ret, x_ret_i, x_ret_z, x_ret_l, x_ret_c, x_iinc_3, x_goto, unl_i, unl_l, unl_q, unl_r, unl_s, unl_n, k_L_law_120, k_L_law_121, k_L_law_122, k_L_law_123, k_L_law_124, k_L_law_125, k_L_law_126, k_L_law_127, k_L_law_128, k_L_law_129, k_L_law_130, k_L_law_131, k_L_law_132, k_L_law_133, k_L_law_134, k_L_law_135, k_L_law_136, k_L_law_137, k_L_law_138, k_L_law_139, k_L_law_140, k_L_law_141, k_L_law_142, k_L_law_143, k_L_law_144, k_L_law_145, k_L_law_146, k_L_law_1316, k_L_law_1317, oE_some, Int.reduceToNat, Nat.reduceAdd, true_and, and_true, List.length_cons, List.length_nil, Option.toList_some, Option.toList_none, List.cons_append, List.nil_append, Nat.reduceLeDiff, Nat.le_refl, wdS_nil, wdS_i, wdS_l, wdS_r, wdS_n, wdS_s, c0, c1, st9, e1, (WSC_c hs 1 (by decide)).1, (WSC_c hs 1 (by decide)).2, e2, (WSC_c hs 2 (by decide)).1, (WSC_c hs 2 (by decide)).2, P1, P2, e6, lCmp_self, ↓reduceIte]
  exact nx hp (WSI_of ⟨X2, M2, h.2.2.1, h.2.2.2.1, h.2.2.2.2.1, L2⟩)
set_option maxHeartbeats 16000000 in
theorem lw_5 {scr : List Int} {R : PO} {i : Nat} {B : BU} {hp : HP} {n : Nat} {G : BitVec 64} {z : Int} {c : Nat} {ks : List Int} {es : List Int} {ik : Bool} {kn : Nat} {kG : BitVec 64} {kz : Int} {kc : Nat} {kks : List Int} {kes : List Int} {tc : Nat} {tb : List Int} {sc : Nat} {tl : List Int} {so : List Int} {le : List Int} {it : Nat → List (BitVec 64)} {he : List Int} {th : List Int} {sl : List Int} {tr : Nat} {bo : List Int} (h : WLS hp n G z c ks es ik kn kG kz kc kks kes tc tb sc tl so le it he th sl tr bo) (hs : WSC scr i) (nx : WNX scr R (i + 6) B) : AW 1000 scr 302 R 147 [some (mS 9), some (mR 0), some (mR 54), some (mI (i : Int))] [] hp B := by
  have c0 := (WLS_c h).1
  have OK := XI_ok h.1
  have n16 := h.2.1.1.2
  have hX := h.1
  have hM := h.2.1
  have w := fun k => hs.2.2 (i + k)
  have e1 : (i : Int) + 1 = ((i + 1 : Nat) : Int) := rfl
  have e6 : (i : Int) + 6 = ((i + 6 : Nat) : Int) := rfl
  have st9 : stab scr 9 = scr := rfl
  have P1 := fun R => x10_rowAt 900 hX (w 1) R
  have M1 := hM
  have X1 := hX
  have L1 := h.2.2.2.2.2
  have a1 := MI_ws M1
  have c1 := a1.2.2.2.1
  have hA := a1.2.2.2.2.1
  have hG := a1.2.2.2.2.2
  have P2 := fun R => m_rowAt 900 hA.1 (w 1) R
  have M2 := M1
  have X2 := X1
  have L2 := L1
  simp only [AW_k, AWk_1, x_aload_1, x_aloads_1, x_aload_0, x_aloads_0, x_iload_3, x_push_i, x_push_l, x_iadd, x_iald, x_ialds, x_callv_2, x_aload_2, x_aloads_2, x_icmp_eq, x_ret, x_ret_i, x_ret_z, x_ret_l, x_ret_c, x_iinc_3, x_goto, unl_i, unl_l, unl_q, unl_r, unl_s, unl_n, k_L_law_147, k_L_law_148, k_L_law_149, k_L_law_150, k_L_law_151, k_L_law_152, k_L_law_153, k_L_law_154, k_L_law_155, k_L_law_156, k_L_law_157, k_L_law_158, k_L_law_159, k_L_law_160, k_L_law_161, k_L_law_162, k_L_law_163, k_L_law_1316, k_L_law_1317, oE_some, Int.reduceToNat, Nat.reduceAdd, true_and, and_true, List.length_cons, List.length_nil, Option.toList_some, Option.toList_none, List.cons_append, List.nil_append, Nat.reduceLeDiff, Nat.le_refl, wdS_nil, wdS_i, wdS_l, wdS_r, wdS_n, wdS_s, c0, c1, st9, e1, (WSC_c hs 1 (by decide)).1, (WSC_c hs 1 (by decide)).2, P1, P2, e6, lCmp_self, ↓reduceIte]
  exact nx hp (WSI_of ⟨X2, M2, h.2.2.1, h.2.2.2.1, h.2.2.2.2.1, L2⟩)
set_option maxHeartbeats 16000000 in
theorem lw_6 {scr : List Int} {R : PO} {i : Nat} {B : BU} {hp : HP} {n : Nat} {G : BitVec 64} {z : Int} {c : Nat} {ks : List Int} {es : List Int} {ik : Bool} {kn : Nat} {kG : BitVec 64} {kz : Int} {kc : Nat} {kks : List Int} {kes : List Int} {tc : Nat} {tb : List Int} {sc : Nat} {tl : List Int} {so : List Int} {le : List Int} {it : Nat → List (BitVec 64)} {he : List Int} {th : List Int} {sl : List Int} {tr : Nat} {bo : List Int} (h : WLS hp n G z c ks es ik kn kG kz kc kks kes tc tb sc tl so le it he th sl tr bo) (hs : WSC scr i) (nx : WNX scr R (i + 6) B) : AW 1000 scr 302 R 164 [some (mS 9), some (mR 0), some (mR 54), some (mI (i : Int))] [] hp B := by
  have c0 := (WLS_c h).1
  have OK := XI_ok h.1
  have n16 := h.2.1.1.2
  have hX := h.1
  have hM := h.2.1
  have w := fun k => hs.2.2 (i + k)
  have e1 : (i : Int) + 1 = ((i + 1 : Nat) : Int) := rfl
  have e2 : (i : Int) + 2 = ((i + 2 : Nat) : Int) := rfl
  have e3 : (i : Int) + 3 = ((i + 3 : Nat) : Int) := rfl
  have e6 : (i : Int) + 6 = ((i + 6 : Nat) : Int) := rfl
  have st9 : stab scr 9 = scr := rfl
  have P1 := fun R => x10_jump 900 hX (w 1) (w 2) (w 3) R
  have M1 := hM
  have X1 := hX
  have L1 := h.2.2.2.2.2
  have a1 := MI_ws M1
  have c1 := a1.2.2.2.1
  have hA := a1.2.2.2.2.1
  have hG := a1.2.2.2.2.2
  have P2 := fun R => m_jump 900 hA.1 (w 1) (w 2) (w 3) R
  have M2 := M1
  have X2 := X1
  have L2 := L1
  simp only [AW_k, AWk_1, x_aload_1, x_aloads_1, x_aload_0, x_aloads_0, x_iload_3, x_push_i, x_push_l, x_iadd, x_iald, x_ialds, x_callv_4, x_aload_2, x_aloads_2, x_icmp_eq, x_ret, x_ret_i, x_ret_z, x_ret_l, x_ret_c, x_iinc_3, x_goto, unl_i, unl_l, unl_q, unl_r, unl_s, unl_n, k_L_law_164, k_L_law_165, k_L_law_166, k_L_law_167, k_L_law_168, k_L_law_169, k_L_law_170, k_L_law_171, k_L_law_172, k_L_law_173, k_L_law_174, k_L_law_175, k_L_law_176, k_L_law_177, k_L_law_178, k_L_law_179, k_L_law_180, k_L_law_181, k_L_law_182, k_L_law_183, k_L_law_184, k_L_law_185, k_L_law_186, k_L_law_187, k_L_law_188, k_L_law_189, k_L_law_190, k_L_law_191, k_L_law_192, k_L_law_193, k_L_law_194, k_L_law_195, k_L_law_196, k_L_law_197, k_L_law_198, k_L_law_199, k_L_law_200, k_L_law_1316, k_L_law_1317, oE_some, Int.reduceToNat, Nat.reduceAdd, true_and, and_true, List.length_cons, List.length_nil, Option.toList_some, Option.toList_none, List.cons_append, List.nil_append, Nat.reduceLeDiff, Nat.le_refl, wdS_nil, wdS_i, wdS_l, wdS_r, wdS_n, wdS_s, c0, c1, st9, e1, (WSC_c hs 1 (by decide)).1, (WSC_c hs 1 (by decide)).2, e2, (WSC_c hs 2 (by decide)).1, (WSC_c hs 2 (by decide)).2, e3, (WSC_c hs 3 (by decide)).1, (WSC_c hs 3 (by decide)).2, P1, P2, e6, lCmp_self, ↓reduceIte]
  exact nx hp (WSI_of ⟨X2, M2, h.2.2.1, h.2.2.2.1, h.2.2.2.2.1, L2⟩)
set_option maxHeartbeats 16000000 in
theorem lw_7 {scr : List Int} {R : PO} {i : Nat} {B : BU} {hp : HP} {n : Nat} {G : BitVec 64} {z : Int} {c : Nat} {ks : List Int} {es : List Int} {ik : Bool} {kn : Nat} {kG : BitVec 64} {kz : Int} {kc : Nat} {kks : List Int} {kes : List Int} {tc : Nat} {tb : List Int} {sc : Nat} {tl : List Int} {so : List Int} {le : List Int} {it : Nat → List (BitVec 64)} {he : List Int} {th : List Int} {sl : List Int} {tr : Nat} {bo : List Int} (h : WLS hp n G z c ks es ik kn kG kz kc kks kes tc tb sc tl so le it he th sl tr bo) (hs : WSC scr i) (nx : WNX scr R (i + 6) B) : AW 1000 scr 302 R 201 [some (mS 9), some (mR 0), some (mR 54), some (mI (i : Int))] [] hp B := by
  have c0 := (WLS_c h).1
  have OK := XI_ok h.1
  have n16 := h.2.1.1.2
  have hX := h.1
  have hM := h.2.1
  have w := fun k => hs.2.2 (i + k)
  have e1 : (i : Int) + 1 = ((i + 1 : Nat) : Int) := rfl
  have e2 : (i : Int) + 2 = ((i + 2 : Nat) : Int) := rfl
  have e6 : (i : Int) + 6 = ((i + 6 : Nat) : Int) := rfl
  have st9 : stab scr 9 = scr := rfl
  have P1 := fun R => x10_arc 900 hX (w 1) (w 2) R
  have M1 := hM
  have X1 := hX
  have L1 := h.2.2.2.2.2
  have a1 := MI_ws M1
  have c1 := a1.2.2.2.1
  have hA := a1.2.2.2.2.1
  have hG := a1.2.2.2.2.2
  have P2 := fun R => m_arc 900 hA (w 1) (w 2) R
  have M2 := M1
  have X2 := X1
  have L2 := L1
  simp only [AW_k, AWk_1, x_aload_1, x_aloads_1, x_aload_0, x_aloads_0, x_iload_3, x_push_i, x_push_l, x_iadd, x_iald, x_ialds, x_callv_3, x_aload_2, x_aloads_2, x_icmp_eq, x_ret, x_ret_i, x_ret_z, x_ret_l, x_ret_c, x_iinc_3, x_goto, unl_i, unl_l, unl_q, unl_r, unl_s, unl_n, k_L_law_201, k_L_law_202, k_L_law_203, k_L_law_204, k_L_law_205, k_L_law_206, k_L_law_207, k_L_law_208, k_L_law_209, k_L_law_210, k_L_law_211, k_L_law_212, k_L_law_213, k_L_law_214, k_L_law_215, k_L_law_216, k_L_law_217, k_L_law_218, k_L_law_219, k_L_law_220, k_L_law_221, k_L_law_222, k_L_law_223, k_L_law_224, k_L_law_225, k_L_law_226, k_L_law_227, k_L_law_1316, k_L_law_1317, oE_some, Int.reduceToNat, Nat.reduceAdd, true_and, and_true, List.length_cons, List.length_nil, Option.toList_some, Option.toList_none, List.cons_append, List.nil_append, Nat.reduceLeDiff, Nat.le_refl, wdS_nil, wdS_i, wdS_l, wdS_r, wdS_n, wdS_s, c0, c1, st9, e1, (WSC_c hs 1 (by decide)).1, (WSC_c hs 1 (by decide)).2, e2, (WSC_c hs 2 (by decide)).1, (WSC_c hs 2 (by decide)).2, P1, P2, e6, lCmp_self, ↓reduceIte]
  exact nx hp (WSI_of ⟨X2, M2, h.2.2.1, h.2.2.2.1, h.2.2.2.2.1, L2⟩)
set_option maxHeartbeats 16000000 in
theorem lw_9 {scr : List Int} {R : PO} {i : Nat} {B : BU} {hp : HP} {n : Nat} {G : BitVec 64} {z : Int} {c : Nat} {ks : List Int} {es : List Int} {ik : Bool} {kn : Nat} {kG : BitVec 64} {kz : Int} {kc : Nat} {kks : List Int} {kes : List Int} {tc : Nat} {tb : List Int} {sc : Nat} {tl : List Int} {so : List Int} {le : List Int} {it : Nat → List (BitVec 64)} {he : List Int} {th : List Int} {sl : List Int} {tr : Nat} {bo : List Int} (h : WLS hp n G z c ks es ik kn kG kz kc kks kes tc tb sc tl so le it he th sl tr bo) (hs : WSC scr i) (nx : WNX scr R (i + 6) B) : AW 1000 scr 302 R 255 [some (mS 9), some (mR 0), some (mR 54), some (mI (i : Int))] [] hp B := by
  have c0 := (WLS_c h).1
  have OK := XI_ok h.1
  have n16 := h.2.1.1.2
  have hX := h.1
  have hM := h.2.1
  have w := fun k => hs.2.2 (i + k)
  have e1 : (i : Int) + 1 = ((i + 1 : Nat) : Int) := rfl
  have e2 : (i : Int) + 2 = ((i + 2 : Nat) : Int) := rfl
  have e6 : (i : Int) + 6 = ((i + 6 : Nat) : Int) := rfl
  have st9 : stab scr 9 = scr := rfl
  have P1 := fun R => x10_forces 900 hX (w 1) (w 2) R
  have M1 := hM
  have X1 := hX
  have L1 := h.2.2.2.2.2
  have a1 := MI_ws M1
  have c1 := a1.2.2.2.1
  have hA := a1.2.2.2.2.1
  have hG := a1.2.2.2.2.2
  have P2 := fun R => m_forces 900 hA (w 1) (w 2) R
  have M2 := M1
  have X2 := X1
  have L2 := L1
  simp only [AW_k, AWk_1, x_aload_1, x_aloads_1, x_aload_0, x_aloads_0, x_iload_3, x_push_i, x_push_l, x_iadd, x_iald, x_ialds, x_callv_3, x_aload_2, x_aloads_2, x_icmp_eq, x_ret, x_ret_i, x_ret_z, x_ret_l, x_ret_c, x_iinc_3, x_goto, unl_i, unl_l, unl_q, unl_r, unl_s, unl_n, k_L_law_255, k_L_law_256, k_L_law_257, k_L_law_258, k_L_law_259, k_L_law_260, k_L_law_261, k_L_law_262, k_L_law_263, k_L_law_264, k_L_law_265, k_L_law_266, k_L_law_267, k_L_law_268, k_L_law_269, k_L_law_270, k_L_law_271, k_L_law_272, k_L_law_273, k_L_law_274, k_L_law_275, k_L_law_276, k_L_law_277, k_L_law_278, k_L_law_279, k_L_law_280, k_L_law_281, k_L_law_1316, k_L_law_1317, oE_some, Int.reduceToNat, Nat.reduceAdd, true_and, and_true, List.length_cons, List.length_nil, Option.toList_some, Option.toList_none, List.cons_append, List.nil_append, Nat.reduceLeDiff, Nat.le_refl, wdS_nil, wdS_i, wdS_l, wdS_r, wdS_n, wdS_s, c0, c1, st9, e1, (WSC_c hs 1 (by decide)).1, (WSC_c hs 1 (by decide)).2, e2, (WSC_c hs 2 (by decide)).1, (WSC_c hs 2 (by decide)).2, P1, P2, e6, lCmp_self, ↓reduceIte]
  exact nx hp (WSI_of ⟨X2, M2, h.2.2.1, h.2.2.2.1, h.2.2.2.2.1, L2⟩)
set_option maxHeartbeats 16000000 in
theorem lw_10 {scr : List Int} {R : PO} {i : Nat} {B : BU} {hp : HP} {n : Nat} {G : BitVec 64} {z : Int} {c : Nat} {ks : List Int} {es : List Int} {ik : Bool} {kn : Nat} {kG : BitVec 64} {kz : Int} {kc : Nat} {kks : List Int} {kes : List Int} {tc : Nat} {tb : List Int} {sc : Nat} {tl : List Int} {so : List Int} {le : List Int} {it : Nat → List (BitVec 64)} {he : List Int} {th : List Int} {sl : List Int} {tr : Nat} {bo : List Int} (h : WLS hp n G z c ks es ik kn kG kz kc kks kes tc tb sc tl so le it he th sl tr bo) (hs : WSC scr i) (nx : WNX scr R (i + 6) B) : AW 1000 scr 302 R 282 [some (mS 9), some (mR 0), some (mR 54), some (mI (i : Int))] [] hp B := by
  have c0 := (WLS_c h).1
  have OK := XI_ok h.1
  have n16 := h.2.1.1.2
  have hX := h.1
  have hM := h.2.1
  have w := fun k => hs.2.2 (i + k)
  have e1 : (i : Int) + 1 = ((i + 1 : Nat) : Int) := rfl
  have e6 : (i : Int) + 6 = ((i + 6 : Nat) : Int) := rfl
  have st9 : stab scr 9 = scr := rfl
  have P1 := fun R => x10_diagram 900 hX (w 1) R
  have M1 := hM
  have X1 := hX
  have L1 := h.2.2.2.2.2
  have a1 := MI_ws M1
  have c1 := a1.2.2.2.1
  have hA := a1.2.2.2.2.1
  have hG := a1.2.2.2.2.2
  have P2 := fun R => m_diagram 900 hA (w 1) R
  have M2 := M1
  have X2 := X1
  have L2 := L1
  simp only [AW_k, AWk_1, x_aload_1, x_aloads_1, x_aload_0, x_aloads_0, x_iload_3, x_push_i, x_push_l, x_iadd, x_iald, x_ialds, x_callv_2, x_aload_2, x_aloads_2, x_lcmp, x_if_eq, x_ret, x_ret_i, x_ret_z, x_ret_l, x_ret_c, x_iinc_3, x_goto, unl_i, unl_l, unl_q, unl_r, unl_s, unl_n, k_L_law_282, k_L_law_283, k_L_law_284, k_L_law_285, k_L_law_286, k_L_law_287, k_L_law_288, k_L_law_289, k_L_law_290, k_L_law_291, k_L_law_292, k_L_law_293, k_L_law_294, k_L_law_295, k_L_law_296, k_L_law_297, k_L_law_298, k_L_law_299, k_L_law_1316, k_L_law_1317, oE_some, Int.reduceToNat, Nat.reduceAdd, true_and, and_true, List.length_cons, List.length_nil, Option.toList_some, Option.toList_none, List.cons_append, List.nil_append, Nat.reduceLeDiff, Nat.le_refl, wdS_nil, wdS_i, wdS_l, wdS_r, wdS_n, wdS_s, c0, c1, st9, e1, (WSC_c hs 1 (by decide)).1, (WSC_c hs 1 (by decide)).2, P1, P2, e6, lCmp_self, ↓reduceIte]
  exact nx hp (WSI_of ⟨X2, M2, h.2.2.1, h.2.2.2.1, h.2.2.2.2.1, L2⟩)
set_option maxHeartbeats 16000000 in
theorem lw_12 {scr : List Int} {R : PO} {i : Nat} {B : BU} {hp : HP} {n : Nat} {G : BitVec 64} {z : Int} {c : Nat} {ks : List Int} {es : List Int} {ik : Bool} {kn : Nat} {kG : BitVec 64} {kz : Int} {kc : Nat} {kks : List Int} {kes : List Int} {tc : Nat} {tb : List Int} {sc : Nat} {tl : List Int} {so : List Int} {le : List Int} {it : Nat → List (BitVec 64)} {he : List Int} {th : List Int} {sl : List Int} {tr : Nat} {bo : List Int} (h : WLS hp n G z c ks es ik kn kG kz kc kks kes tc tb sc tl so le it he th sl tr bo) (hs : WSC scr i) (nx : WNX scr R (i + 6) B) : AW 1000 scr 302 R 341 [some (mS 9), some (mR 0), some (mR 54), some (mI (i : Int))] [] hp B := by
  have c0 := (WLS_c h).1
  have OK := XI_ok h.1
  have n16 := h.2.1.1.2
  have hX := h.1
  have hM := h.2.1
  have w := fun k => hs.2.2 (i + k)
  have e6 : (i : Int) + 6 = ((i + 6 : Nat) : Int) := rfl
  have st9 : stab scr 9 = scr := rfl
  have P1 := fun R => x10_gone 900 hX R
  have M1 := hM
  have X1 := hX
  have L1 := h.2.2.2.2.2
  have a1 := MI_ws M1
  have c1 := a1.2.2.2.1
  have hA := a1.2.2.2.2.1
  have hG := a1.2.2.2.2.2
  have P2 := fun R => x_gone_m 900 M1 R
  have M2 := M1
  have X2 := X1
  have L2 := L1
  simp only [AW_k, AWk_1, x_aload_1, x_aloads_1, x_callv_1, x_aload_2, x_aloads_2, x_lcmp, x_if_eq, x_push_i, x_push_l, x_ret, x_ret_i, x_ret_z, x_ret_l, x_ret_c, x_iinc_3, x_goto, unl_i, unl_l, unl_q, unl_r, unl_s, unl_n, k_L_law_341, k_L_law_342, k_L_law_343, k_L_law_344, k_L_law_345, k_L_law_346, k_L_law_347, k_L_law_348, k_L_law_1316, k_L_law_1317, oE_some, Int.reduceToNat, Nat.reduceAdd, true_and, and_true, List.length_cons, List.length_nil, Option.toList_some, Option.toList_none, List.cons_append, List.nil_append, Nat.reduceLeDiff, Nat.le_refl, wdS_nil, wdS_i, wdS_l, wdS_r, wdS_n, wdS_s, c0, c1, st9, P1, P2, e6, lCmp_self, ↓reduceIte]
  exact nx hp (WSI_of ⟨X2, M2, h.2.2.1, h.2.2.2.1, h.2.2.2.2.1, L2⟩)
set_option maxHeartbeats 16000000 in
theorem lw_13 {scr : List Int} {R : PO} {i : Nat} {B : BU} {hp : HP} {n : Nat} {G : BitVec 64} {z : Int} {c : Nat} {ks : List Int} {es : List Int} {ik : Bool} {kn : Nat} {kG : BitVec 64} {kz : Int} {kc : Nat} {kks : List Int} {kes : List Int} {tc : Nat} {tb : List Int} {sc : Nat} {tl : List Int} {so : List Int} {le : List Int} {it : Nat → List (BitVec 64)} {he : List Int} {th : List Int} {sl : List Int} {tr : Nat} {bo : List Int} (h : WLS hp n G z c ks es ik kn kG kz kc kks kes tc tb sc tl so le it he th sl tr bo) (hs : WSC scr i) (nx : WNX scr R (i + 6) B) : AW 1000 scr 302 R 349 [some (mS 9), some (mR 0), some (mR 54), some (mI (i : Int))] [] hp B := by
  have c0 := (WLS_c h).1
  have OK := XI_ok h.1
  have n16 := h.2.1.1.2
  have hX := h.1
  have hM := h.2.1
  have w := fun k => hs.2.2 (i + k)
  have e1 : (i : Int) + 1 = ((i + 1 : Nat) : Int) := rfl
  have e6 : (i : Int) + 6 = ((i + 6 : Nat) : Int) := rfl
  have st9 : stab scr 9 = scr := rfl
  obtain ⟨h1, X1, K1, P1⟩ := x10_contract 900 hX (w 1)
  have M1 := MI_class hM K1
  have L1 := Nat.le_trans h.2.2.2.2.2 K1.1
  have a1 := MI_ws M1
  have c1 := a1.2.2.2.1
  have hA := a1.2.2.2.2.1
  have hG := a1.2.2.2.2.2
  obtain ⟨h2, M2, F2, P2⟩ := x_contract_m 900 M1 (w 1)
  have X2 := XI_model X1 F2
  have L2 : 83 ≤ h2.length := by rw [F2.1]; exact L1
  simp only [AW_k, AWk_1, x_aload_1, x_aloads_1, x_aload_0, x_aloads_0, x_iload_3, x_push_i, x_push_l, x_iadd, x_iald, x_ialds, x_callv_2, x_aload_2, x_aloads_2, x_icmp_eq, x_ret, x_ret_i, x_ret_z, x_ret_l, x_ret_c, x_iinc_3, x_goto, unl_i, unl_l, unl_q, unl_r, unl_s, unl_n, k_L_law_349, k_L_law_350, k_L_law_351, k_L_law_352, k_L_law_353, k_L_law_354, k_L_law_355, k_L_law_356, k_L_law_357, k_L_law_358, k_L_law_359, k_L_law_360, k_L_law_361, k_L_law_362, k_L_law_363, k_L_law_364, k_L_law_365, k_L_law_1316, k_L_law_1317, oE_some, Int.reduceToNat, Nat.reduceAdd, true_and, and_true, List.length_cons, List.length_nil, Option.toList_some, Option.toList_none, List.cons_append, List.nil_append, Nat.reduceLeDiff, Nat.le_refl, wdS_nil, wdS_i, wdS_l, wdS_r, wdS_n, wdS_s, c0, c1, st9, e1, (WSC_c hs 1 (by decide)).1, (WSC_c hs 1 (by decide)).2, P1, P2, e6, lCmp_self, ↓reduceIte]
  exact nx h2 (WSI_of ⟨X2, M2, clo_ctG n16.1 n16.2 h.2.2.1, h.2.2.2.1, h.2.2.2.2.1, L2⟩)
set_option maxHeartbeats 16000000 in
theorem lw_14 {scr : List Int} {R : PO} {i : Nat} {B : BU} {hp : HP} {n : Nat} {G : BitVec 64} {z : Int} {c : Nat} {ks : List Int} {es : List Int} {ik : Bool} {kn : Nat} {kG : BitVec 64} {kz : Int} {kc : Nat} {kks : List Int} {kes : List Int} {tc : Nat} {tb : List Int} {sc : Nat} {tl : List Int} {so : List Int} {le : List Int} {it : Nat → List (BitVec 64)} {he : List Int} {th : List Int} {sl : List Int} {tr : Nat} {bo : List Int} (h : WLS hp n G z c ks es ik kn kG kz kc kks kes tc tb sc tl so le it he th sl tr bo) (hs : WSC scr i) (nx : WNX scr R (i + 6) B) : AW 1000 scr 302 R 366 [some (mS 9), some (mR 0), some (mR 54), some (mI (i : Int))] [] hp B := by
  have c0 := (WLS_c h).1
  have OK := XI_ok h.1
  have n16 := h.2.1.1.2
  have hX := h.1
  have hM := h.2.1
  have w := fun k => hs.2.2 (i + k)
  have e1 : (i : Int) + 1 = ((i + 1 : Nat) : Int) := rfl
  have e6 : (i : Int) + 6 = ((i + 6 : Nat) : Int) := rfl
  have st9 : stab scr 9 = scr := rfl
  obtain ⟨h1, X1, K1, P1⟩ := x10_restore 900 hX (w 1)
  have M1 := MI_class hM K1
  have L1 := Nat.le_trans h.2.2.2.2.2 K1.1
  have a1 := MI_ws M1
  have c1 := a1.2.2.2.1
  have hA := a1.2.2.2.2.1
  have hG := a1.2.2.2.2.2
  obtain ⟨h2, M2, F2, P2⟩ := x_restore_m 900 M1 (w 1)
  have X2 := XI_model X1 F2
  have L2 : 83 ≤ h2.length := by rw [F2.1]; exact L1
  simp only [AW_k, AWk_1, x_aload_1, x_aloads_1, x_aload_0, x_aloads_0, x_iload_3, x_push_i, x_push_l, x_iadd, x_iald, x_ialds, x_callv_2, x_aload_2, x_aloads_2, x_icmp_eq, x_ret, x_ret_i, x_ret_z, x_ret_l, x_ret_c, x_iinc_3, x_goto, unl_i, unl_l, unl_q, unl_r, unl_s, unl_n, k_L_law_366, k_L_law_367, k_L_law_368, k_L_law_369, k_L_law_370, k_L_law_371, k_L_law_372, k_L_law_373, k_L_law_374, k_L_law_375, k_L_law_376, k_L_law_377, k_L_law_378, k_L_law_379, k_L_law_380, k_L_law_381, k_L_law_382, k_L_law_1316, k_L_law_1317, oE_some, Int.reduceToNat, Nat.reduceAdd, true_and, and_true, List.length_cons, List.length_nil, Option.toList_some, Option.toList_none, List.cons_append, List.nil_append, Nat.reduceLeDiff, Nat.le_refl, wdS_nil, wdS_i, wdS_l, wdS_r, wdS_n, wdS_s, c0, c1, st9, e1, (WSC_c hs 1 (by decide)).1, (WSC_c hs 1 (by decide)).2, P1, P2, e6, lCmp_self, ↓reduceIte]
  exact nx h2 (WSI_of ⟨X2, M2, clo_rsG n16.1 n16.2 h.2.2.1, h.2.2.2.1, h.2.2.2.2.1, L2⟩)
set_option maxHeartbeats 16000000 in
theorem lw_15 {scr : List Int} {R : PO} {i : Nat} {B : BU} {hp : HP} {n : Nat} {G : BitVec 64} {z : Int} {c : Nat} {ks : List Int} {es : List Int} {ik : Bool} {kn : Nat} {kG : BitVec 64} {kz : Int} {kc : Nat} {kks : List Int} {kes : List Int} {tc : Nat} {tb : List Int} {sc : Nat} {tl : List Int} {so : List Int} {le : List Int} {it : Nat → List (BitVec 64)} {he : List Int} {th : List Int} {sl : List Int} {tr : Nat} {bo : List Int} (h : WLS hp n G z c ks es ik kn kG kz kc kks kes tc tb sc tl so le it he th sl tr bo) (hs : WSC scr i) (nx : WNX scr R (i + 6) B) : AW 1000 scr 302 R 383 [some (mS 9), some (mR 0), some (mR 54), some (mI (i : Int))] [] hp B := by
  have c0 := (WLS_c h).1
  have OK := XI_ok h.1
  have n16 := h.2.1.1.2
  have hX := h.1
  have hM := h.2.1
  have w := fun k => hs.2.2 (i + k)
  have e1 : (i : Int) + 1 = ((i + 1 : Nat) : Int) := rfl
  have e2 : (i : Int) + 2 = ((i + 2 : Nat) : Int) := rfl
  have e6 : (i : Int) + 6 = ((i + 6 : Nat) : Int) := rfl
  have st9 : stab scr 9 = scr := rfl
  obtain ⟨h1, X1, K1, P1⟩ := x10_collapse 900 hX (w 1) (w 2)
  have M1 := MI_class hM K1
  have L1 := Nat.le_trans h.2.2.2.2.2 K1.1
  have a1 := MI_ws M1
  have c1 := a1.2.2.2.1
  have hA := a1.2.2.2.2.1
  have hG := a1.2.2.2.2.2
  obtain ⟨h2, M2, F2, P2⟩ := x_collapse_m 900 M1 (w 1) (w 2)
  have X2 := XI_model X1 F2
  have L2 : 83 ≤ h2.length := by rw [F2.1]; exact L1
  simp only [AW_k, AWk_1, x_aload_1, x_aloads_1, x_aload_0, x_aloads_0, x_iload_3, x_push_i, x_push_l, x_iadd, x_iald, x_ialds, x_callv_3, x_aload_2, x_aloads_2, x_icmp_eq, x_ret, x_ret_i, x_ret_z, x_ret_l, x_ret_c, x_iinc_3, x_goto, unl_i, unl_l, unl_q, unl_r, unl_s, unl_n, k_L_law_383, k_L_law_384, k_L_law_385, k_L_law_386, k_L_law_387, k_L_law_388, k_L_law_389, k_L_law_390, k_L_law_391, k_L_law_392, k_L_law_393, k_L_law_394, k_L_law_395, k_L_law_396, k_L_law_397, k_L_law_398, k_L_law_399, k_L_law_400, k_L_law_401, k_L_law_402, k_L_law_403, k_L_law_404, k_L_law_405, k_L_law_406, k_L_law_407, k_L_law_408, k_L_law_409, k_L_law_1316, k_L_law_1317, oE_some, Int.reduceToNat, Nat.reduceAdd, true_and, and_true, List.length_cons, List.length_nil, Option.toList_some, Option.toList_none, List.cons_append, List.nil_append, Nat.reduceLeDiff, Nat.le_refl, wdS_nil, wdS_i, wdS_l, wdS_r, wdS_n, wdS_s, c0, c1, st9, e1, (WSC_c hs 1 (by decide)).1, (WSC_c hs 1 (by decide)).2, e2, (WSC_c hs 2 (by decide)).1, (WSC_c hs 2 (by decide)).2, P1, P2, e6, lCmp_self, ↓reduceIte]
  exact nx h2 (WSI_of ⟨X2, M2, clo_clG n16.1 n16.2 h.2.2.1, h.2.2.2.1, h.2.2.2.2.1, L2⟩)
set_option maxHeartbeats 16000000 in
theorem lw_16 {scr : List Int} {R : PO} {i : Nat} {B : BU} {hp : HP} {n : Nat} {G : BitVec 64} {z : Int} {c : Nat} {ks : List Int} {es : List Int} {ik : Bool} {kn : Nat} {kG : BitVec 64} {kz : Int} {kc : Nat} {kks : List Int} {kes : List Int} {tc : Nat} {tb : List Int} {sc : Nat} {tl : List Int} {so : List Int} {le : List Int} {it : Nat → List (BitVec 64)} {he : List Int} {th : List Int} {sl : List Int} {tr : Nat} {bo : List Int} (h : WLS hp n G z c ks es ik kn kG kz kc kks kes tc tb sc tl so le it he th sl tr bo) (hs : WSC scr i) (nx : WNX scr R (i + 6) B) : AW 1000 scr 302 R 410 [some (mS 9), some (mR 0), some (mR 54), some (mI (i : Int))] [] hp B := by
  have c0 := (WLS_c h).1
  have OK := XI_ok h.1
  have n16 := h.2.1.1.2
  have hX := h.1
  have hM := h.2.1
  have w := fun k => hs.2.2 (i + k)
  have e1 : (i : Int) + 1 = ((i + 1 : Nat) : Int) := rfl
  have e2 : (i : Int) + 2 = ((i + 2 : Nat) : Int) := rfl
  have e6 : (i : Int) + 6 = ((i + 6 : Nat) : Int) := rfl
  have st9 : stab scr 9 = scr := rfl
  obtain ⟨h1, X1, K1, P1⟩ := x10_maker 900 hX (w 1) (w 2)
  have M1 := MI_class hM K1
  have L1 := Nat.le_trans h.2.2.2.2.2 K1.1
  have a1 := MI_ws M1
  have c1 := a1.2.2.2.1
  have hA := a1.2.2.2.2.1
  have hG := a1.2.2.2.2.2
  obtain ⟨h2, M2, F2, P2⟩ := x_maker_m 900 M1 OK.1 (w 1) (w 2)
  have X2 := XI_model X1 F2
  have L2 : 83 ≤ h2.length := by rw [F2.1]; exact L1
  simp only [AW_k, AWk_1, x_aload_1, x_aloads_1, x_aload_0, x_aloads_0, x_iload_3, x_push_i, x_push_l, x_iadd, x_iald, x_ialds, x_callv_3, x_aload_2, x_aloads_2, x_icmp_eq, x_ret, x_ret_i, x_ret_z, x_ret_l, x_ret_c, x_iinc_3, x_goto, unl_i, unl_l, unl_q, unl_r, unl_s, unl_n, k_L_law_410, k_L_law_411, k_L_law_412, k_L_law_413, k_L_law_414, k_L_law_415, k_L_law_416, k_L_law_417, k_L_law_418, k_L_law_419, k_L_law_420, k_L_law_421, k_L_law_422, k_L_law_423, k_L_law_424, k_L_law_425, k_L_law_426, k_L_law_427, k_L_law_428, k_L_law_429, k_L_law_430, k_L_law_431, k_L_law_432, k_L_law_433, k_L_law_434, k_L_law_435, k_L_law_436, k_L_law_1316, k_L_law_1317, oE_some, Int.reduceToNat, Nat.reduceAdd, true_and, and_true, List.length_cons, List.length_nil, Option.toList_some, Option.toList_none, List.cons_append, List.nil_append, Nat.reduceLeDiff, Nat.le_refl, wdS_nil, wdS_i, wdS_l, wdS_r, wdS_n, wdS_s, c0, c1, st9, e1, (WSC_c hs 1 (by decide)).1, (WSC_c hs 1 (by decide)).2, e2, (WSC_c hs 2 (by decide)).1, (WSC_c hs 2 (by decide)).2, P1, P2, e6, lCmp_self, ↓reduceIte]
  exact nx h2 (WSI_of ⟨X2, M2, h.2.2.1, h.2.2.2.1, h.2.2.2.2.1, L2⟩)
set_option maxHeartbeats 16000000 in
theorem lw_17 {scr : List Int} {R : PO} {i : Nat} {B : BU} {hp : HP} {n : Nat} {G : BitVec 64} {z : Int} {c : Nat} {ks : List Int} {es : List Int} {ik : Bool} {kn : Nat} {kG : BitVec 64} {kz : Int} {kc : Nat} {kks : List Int} {kes : List Int} {tc : Nat} {tb : List Int} {sc : Nat} {tl : List Int} {so : List Int} {le : List Int} {it : Nat → List (BitVec 64)} {he : List Int} {th : List Int} {sl : List Int} {tr : Nat} {bo : List Int} (h : WLS hp n G z c ks es ik kn kG kz kc kks kes tc tb sc tl so le it he th sl tr bo) (hs : WSC scr i) (nx : WNX scr R (i + 6) B) : AW 1000 scr 302 R 437 [some (mS 9), some (mR 0), some (mR 54), some (mI (i : Int))] [] hp B := by
  have c0 := (WLS_c h).1
  have OK := XI_ok h.1
  have n16 := h.2.1.1.2
  have hX := h.1
  have hM := h.2.1
  have w := fun k => hs.2.2 (i + k)
  have e1 : (i : Int) + 1 = ((i + 1 : Nat) : Int) := rfl
  have e2 : (i : Int) + 2 = ((i + 2 : Nat) : Int) := rfl
  have e6 : (i : Int) + 6 = ((i + 6 : Nat) : Int) := rfl
  have st9 : stab scr 9 = scr := rfl
  have P1 := fun R => x10_makerIs 900 hX (w 1) (w 2) R
  have M1 := hM
  have X1 := hX
  have L1 := h.2.2.2.2.2
  have a1 := MI_ws M1
  have c1 := a1.2.2.2.1
  have hA := a1.2.2.2.2.1
  have hG := a1.2.2.2.2.2
  have P2 := fun R => x_makerIs_m 900 M1 OK.1 (w 1) (w 2) R
  have M2 := M1
  have X2 := X1
  have L2 := L1
  simp only [AW_k, AWk_1, x_aload_1, x_aloads_1, x_aload_0, x_aloads_0, x_iload_3, x_push_i, x_push_l, x_iadd, x_iald, x_ialds, x_callv_3, x_aload_2, x_aloads_2, x_icmp_eq, x_ret, x_ret_i, x_ret_z, x_ret_l, x_ret_c, x_iinc_3, x_goto, unl_i, unl_l, unl_q, unl_r, unl_s, unl_n, k_L_law_437, k_L_law_438, k_L_law_439, k_L_law_440, k_L_law_441, k_L_law_442, k_L_law_443, k_L_law_444, k_L_law_445, k_L_law_446, k_L_law_447, k_L_law_448, k_L_law_449, k_L_law_450, k_L_law_451, k_L_law_452, k_L_law_453, k_L_law_454, k_L_law_455, k_L_law_456, k_L_law_457, k_L_law_458, k_L_law_459, k_L_law_460, k_L_law_461, k_L_law_462, k_L_law_463, k_L_law_1316, k_L_law_1317, oE_some, Int.reduceToNat, Nat.reduceAdd, true_and, and_true, List.length_cons, List.length_nil, Option.toList_some, Option.toList_none, List.cons_append, List.nil_append, Nat.reduceLeDiff, Nat.le_refl, wdS_nil, wdS_i, wdS_l, wdS_r, wdS_n, wdS_s, c0, c1, st9, e1, (WSC_c hs 1 (by decide)).1, (WSC_c hs 1 (by decide)).2, e2, (WSC_c hs 2 (by decide)).1, (WSC_c hs 2 (by decide)).2, P1, P2, e6, lCmp_self, ↓reduceIte]
  exact nx hp (WSI_of ⟨X2, M2, h.2.2.1, h.2.2.2.1, h.2.2.2.2.1, L2⟩)
set_option maxHeartbeats 16000000 in
theorem lw_18 {scr : List Int} {R : PO} {i : Nat} {B : BU} {hp : HP} {n : Nat} {G : BitVec 64} {z : Int} {c : Nat} {ks : List Int} {es : List Int} {ik : Bool} {kn : Nat} {kG : BitVec 64} {kz : Int} {kc : Nat} {kks : List Int} {kes : List Int} {tc : Nat} {tb : List Int} {sc : Nat} {tl : List Int} {so : List Int} {le : List Int} {it : Nat → List (BitVec 64)} {he : List Int} {th : List Int} {sl : List Int} {tr : Nat} {bo : List Int} (h : WLS hp n G z c ks es ik kn kG kz kc kks kes tc tb sc tl so le it he th sl tr bo) (hs : WSC scr i) (nx : WNX scr R (i + 6) B) : AW 1000 scr 302 R 464 [some (mS 9), some (mR 0), some (mR 54), some (mI (i : Int))] [] hp B := by
  have c0 := (WLS_c h).1
  have OK := XI_ok h.1
  have n16 := h.2.1.1.2
  have hX := h.1
  have hM := h.2.1
  have w := fun k => hs.2.2 (i + k)
  have e1 : (i : Int) + 1 = ((i + 1 : Nat) : Int) := rfl
  have e2 : (i : Int) + 2 = ((i + 2 : Nat) : Int) := rfl
  have e6 : (i : Int) + 6 = ((i + 6 : Nat) : Int) := rfl
  have st9 : stab scr 9 = scr := rfl
  obtain ⟨h1, X1, K1, P1⟩ := x10_make 900 hX (w 1) (w 2)
  have M1 := MI_class hM K1
  have L1 := Nat.le_trans h.2.2.2.2.2 K1.1
  have a1 := MI_ws M1
  have c1 := a1.2.2.2.1
  have hA := a1.2.2.2.2.1
  have hG := a1.2.2.2.2.2
  obtain ⟨h2, M2, F2, P2⟩ := x_make_m 900 M1 OK.1 (w 1) (w 2)
  have X2 := XI_model X1 F2
  have L2 : 83 ≤ h2.length := by rw [F2.1]; exact L1
  simp only [AW_k, AWk_1, x_aload_1, x_aloads_1, x_aload_0, x_aloads_0, x_iload_3, x_push_i, x_push_l, x_iadd, x_iald, x_ialds, x_callv_3, x_aload_2, x_aloads_2, x_icmp_eq, x_ret, x_ret_i, x_ret_z, x_ret_l, x_ret_c, x_iinc_3, x_goto, unl_i, unl_l, unl_q, unl_r, unl_s, unl_n, k_L_law_464, k_L_law_465, k_L_law_466, k_L_law_467, k_L_law_468, k_L_law_469, k_L_law_470, k_L_law_471, k_L_law_472, k_L_law_473, k_L_law_474, k_L_law_475, k_L_law_476, k_L_law_477, k_L_law_478, k_L_law_479, k_L_law_480, k_L_law_481, k_L_law_482, k_L_law_483, k_L_law_484, k_L_law_485, k_L_law_486, k_L_law_487, k_L_law_488, k_L_law_489, k_L_law_490, k_L_law_1316, k_L_law_1317, oE_some, Int.reduceToNat, Nat.reduceAdd, true_and, and_true, List.length_cons, List.length_nil, Option.toList_some, Option.toList_none, List.cons_append, List.nil_append, Nat.reduceLeDiff, Nat.le_refl, wdS_nil, wdS_i, wdS_l, wdS_r, wdS_n, wdS_s, c0, c1, st9, e1, (WSC_c hs 1 (by decide)).1, (WSC_c hs 1 (by decide)).2, e2, (WSC_c hs 2 (by decide)).1, (WSC_c hs 2 (by decide)).2, P1, P2, e6, lCmp_self, ↓reduceIte]
  exact nx h2 (WSI_of ⟨X2, M2, clo_mmG n16.1 n16.2 h.2.2.1, h.2.2.2.1, h.2.2.2.2.1, L2⟩)
set_option maxHeartbeats 16000000 in
theorem lw_21 {scr : List Int} {R : PO} {i : Nat} {B : BU} {hp : HP} {n : Nat} {G : BitVec 64} {z : Int} {c : Nat} {ks : List Int} {es : List Int} {ik : Bool} {kn : Nat} {kG : BitVec 64} {kz : Int} {kc : Nat} {kks : List Int} {kes : List Int} {tc : Nat} {tb : List Int} {sc : Nat} {tl : List Int} {so : List Int} {le : List Int} {it : Nat → List (BitVec 64)} {he : List Int} {th : List Int} {sl : List Int} {tr : Nat} {bo : List Int} (h : WLS hp n G z c ks es ik kn kG kz kc kks kes tc tb sc tl so le it he th sl tr bo) (hs : WSC scr i) (nx : WNX scr R (i + 6) B) : AW 1000 scr 302 R 559 [some (mS 9), some (mR 0), some (mR 54), some (mI (i : Int))] [] hp B := by
  have c0 := (WLS_c h).1
  have OK := XI_ok h.1
  have n16 := h.2.1.1.2
  have hX := h.1
  have hM := h.2.1
  have w := fun k => hs.2.2 (i + k)
  have e6 : (i : Int) + 6 = ((i + 6 : Nat) : Int) := rfl
  have st9 : stab scr 9 = scr := rfl
  obtain ⟨h1, X1, K1, P1⟩ := x10_clear 900 hX
  have M1 := MI_class hM K1
  have L1 := Nat.le_trans h.2.2.2.2.2 K1.1
  have a1 := MI_ws M1
  have c1 := a1.2.2.2.1
  have hA := a1.2.2.2.2.1
  have hG := a1.2.2.2.2.2
  obtain ⟨h2, M2, F2, P2⟩ := x_clear_m 900 M1
  have X2 := XI_model X1 F2
  have L2 : 83 ≤ h2.length := by rw [F2.1]; exact L1
  simp only [AW_k, AWk_1, x_aload_1, x_aloads_1, x_callv_1, x_aload_2, x_aloads_2, x_icmp_eq, x_push_i, x_push_l, x_ret, x_ret_i, x_ret_z, x_ret_l, x_ret_c, x_iinc_3, x_goto, unl_i, unl_l, unl_q, unl_r, unl_s, unl_n, k_L_law_559, k_L_law_560, k_L_law_561, k_L_law_562, k_L_law_563, k_L_law_564, k_L_law_565, k_L_law_1316, k_L_law_1317, oE_some, Int.reduceToNat, Nat.reduceAdd, true_and, and_true, List.length_cons, List.length_nil, Option.toList_some, Option.toList_none, List.cons_append, List.nil_append, Nat.reduceLeDiff, Nat.le_refl, wdS_nil, wdS_i, wdS_l, wdS_r, wdS_n, wdS_s, c0, c1, st9, P1, P2, e6, lCmp_self, ↓reduceIte]
  exact nx h2 (WSI_of ⟨X2, M2, clo_0 n, h.2.2.2.1, h.2.2.2.2.1, L2⟩)
set_option maxHeartbeats 16000000 in
theorem lw_22 {scr : List Int} {R : PO} {i : Nat} {B : BU} {hp : HP} {n : Nat} {G : BitVec 64} {z : Int} {c : Nat} {ks : List Int} {es : List Int} {ik : Bool} {kn : Nat} {kG : BitVec 64} {kz : Int} {kc : Nat} {kks : List Int} {kes : List Int} {tc : Nat} {tb : List Int} {sc : Nat} {tl : List Int} {so : List Int} {le : List Int} {it : Nat → List (BitVec 64)} {he : List Int} {th : List Int} {sl : List Int} {tr : Nat} {bo : List Int} (h : WLS hp n G z c ks es ik kn kG kz kc kks kes tc tb sc tl so le it he th sl tr bo) (hs : WSC scr i) (nx : WNX scr R (i + 6) B) : AW 1000 scr 302 R 566 [some (mS 9), some (mR 0), some (mR 54), some (mI (i : Int))] [] hp B := by
  have c0 := (WLS_c h).1
  have OK := XI_ok h.1
  have n16 := h.2.1.1.2
  have hX := h.1
  have hM := h.2.1
  have w := fun k => hs.2.2 (i + k)
  have e1 : (i : Int) + 1 = ((i + 1 : Nat) : Int) := rfl
  have e2 : (i : Int) + 2 = ((i + 2 : Nat) : Int) := rfl
  have e6 : (i : Int) + 6 = ((i + 6 : Nat) : Int) := rfl
  have st9 : stab scr 9 = scr := rfl
  have P1 := fun R => x10_alike 900 hX (w 1) (w 2) R
  have M1 := hM
  have X1 := hX
  have L1 := h.2.2.2.2.2
  have a1 := MI_ws M1
  have c1 := a1.2.2.2.1
  have hA := a1.2.2.2.2.1
  have hG := a1.2.2.2.2.2
  have P2 := fun R => m_alike 900 hA hG h.2.2.1 (w 1) (w 2) R
  have M2 := M1
  have X2 := X1
  have L2 := L1
  simp only [AW_k, AWk_1, x_aload_1, x_aloads_1, x_aload_0, x_aloads_0, x_iload_3, x_push_i, x_push_l, x_iadd, x_iald, x_ialds, x_callv_3, x_aload_2, x_aloads_2, x_icmp_eq, x_ret, x_ret_i, x_ret_z, x_ret_l, x_ret_c, x_iinc_3, x_goto, unl_i, unl_l, unl_q, unl_r, unl_s, unl_n, k_L_law_566, k_L_law_567, k_L_law_568, k_L_law_569, k_L_law_570, k_L_law_571, k_L_law_572, k_L_law_573, k_L_law_574, k_L_law_575, k_L_law_576, k_L_law_577, k_L_law_578, k_L_law_579, k_L_law_580, k_L_law_581, k_L_law_582, k_L_law_583, k_L_law_584, k_L_law_585, k_L_law_586, k_L_law_587, k_L_law_588, k_L_law_589, k_L_law_590, k_L_law_591, k_L_law_592, k_L_law_1316, k_L_law_1317, oE_some, Int.reduceToNat, Nat.reduceAdd, true_and, and_true, List.length_cons, List.length_nil, Option.toList_some, Option.toList_none, List.cons_append, List.nil_append, Nat.reduceLeDiff, Nat.le_refl, wdS_nil, wdS_i, wdS_l, wdS_r, wdS_n, wdS_s, c0, c1, st9, e1, (WSC_c hs 1 (by decide)).1, (WSC_c hs 1 (by decide)).2, e2, (WSC_c hs 2 (by decide)).1, (WSC_c hs 2 (by decide)).2, P1, P2, e6, lCmp_self, ↓reduceIte]
  exact nx hp (WSI_of ⟨X2, M2, h.2.2.1, h.2.2.2.1, h.2.2.2.2.1, L2⟩)
set_option maxHeartbeats 16000000 in
theorem lw_23 {scr : List Int} {R : PO} {i : Nat} {B : BU} {hp : HP} {n : Nat} {G : BitVec 64} {z : Int} {c : Nat} {ks : List Int} {es : List Int} {ik : Bool} {kn : Nat} {kG : BitVec 64} {kz : Int} {kc : Nat} {kks : List Int} {kes : List Int} {tc : Nat} {tb : List Int} {sc : Nat} {tl : List Int} {so : List Int} {le : List Int} {it : Nat → List (BitVec 64)} {he : List Int} {th : List Int} {sl : List Int} {tr : Nat} {bo : List Int} (h : WLS hp n G z c ks es ik kn kG kz kc kks kes tc tb sc tl so le it he th sl tr bo) (hs : WSC scr i) (nx : WNX scr R (i + 6) B) : AW 1000 scr 302 R 593 [some (mS 9), some (mR 0), some (mR 54), some (mI (i : Int))] [] hp B := by
  have c0 := (WLS_c h).1
  have OK := XI_ok h.1
  have n16 := h.2.1.1.2
  have hX := h.1
  have hM := h.2.1
  have w := fun k => hs.2.2 (i + k)
  have e1 : (i : Int) + 1 = ((i + 1 : Nat) : Int) := rfl
  have e6 : (i : Int) + 6 = ((i + 6 : Nat) : Int) := rfl
  have st9 : stab scr 9 = scr := rfl
  have P1 := fun R => x10_classAt 900 hX (w 1) R
  have M1 := hM
  have X1 := hX
  have L1 := h.2.2.2.2.2
  have a1 := MI_ws M1
  have c1 := a1.2.2.2.1
  have hA := a1.2.2.2.2.1
  have hG := a1.2.2.2.2.2
  have P2 := fun R => m_classAt 900 hA hG (w 1) R
  have M2 := M1
  have X2 := X1
  have L2 := L1
  simp only [AW_k, AWk_1, x_aload_1, x_aloads_1, x_aload_0, x_aloads_0, x_iload_3, x_push_i, x_push_l, x_iadd, x_iald, x_ialds, x_callv_2, x_aload_2, x_aloads_2, x_icmp_eq, x_ret, x_ret_i, x_ret_z, x_ret_l, x_ret_c, x_iinc_3, x_goto, unl_i, unl_l, unl_q, unl_r, unl_s, unl_n, k_L_law_593, k_L_law_594, k_L_law_595, k_L_law_596, k_L_law_597, k_L_law_598, k_L_law_599, k_L_law_600, k_L_law_601, k_L_law_602, k_L_law_603, k_L_law_604, k_L_law_605, k_L_law_606, k_L_law_607, k_L_law_608, k_L_law_609, k_L_law_1316, k_L_law_1317, oE_some, Int.reduceToNat, Nat.reduceAdd, true_and, and_true, List.length_cons, List.length_nil, Option.toList_some, Option.toList_none, List.cons_append, List.nil_append, Nat.reduceLeDiff, Nat.le_refl, wdS_nil, wdS_i, wdS_l, wdS_r, wdS_n, wdS_s, c0, c1, st9, e1, (WSC_c hs 1 (by decide)).1, (WSC_c hs 1 (by decide)).2, P1, P2, e6, lCmp_self, ↓reduceIte]
  exact nx hp (WSI_of ⟨X2, M2, h.2.2.1, h.2.2.2.1, h.2.2.2.2.1, L2⟩)
set_option maxHeartbeats 16000000 in
theorem lw_24 {scr : List Int} {R : PO} {i : Nat} {B : BU} {hp : HP} {n : Nat} {G : BitVec 64} {z : Int} {c : Nat} {ks : List Int} {es : List Int} {ik : Bool} {kn : Nat} {kG : BitVec 64} {kz : Int} {kc : Nat} {kks : List Int} {kes : List Int} {tc : Nat} {tb : List Int} {sc : Nat} {tl : List Int} {so : List Int} {le : List Int} {it : Nat → List (BitVec 64)} {he : List Int} {th : List Int} {sl : List Int} {tr : Nat} {bo : List Int} (h : WLS hp n G z c ks es ik kn kG kz kc kks kes tc tb sc tl so le it he th sl tr bo) (hs : WSC scr i) (nx : WNX scr R (i + 6) B) : AW 1000 scr 302 R 610 [some (mS 9), some (mR 0), some (mR 54), some (mI (i : Int))] [] hp B := by
  have c0 := (WLS_c h).1
  have OK := XI_ok h.1
  have n16 := h.2.1.1.2
  have hX := h.1
  have hM := h.2.1
  have w := fun k => hs.2.2 (i + k)
  have e1 : (i : Int) + 1 = ((i + 1 : Nat) : Int) := rfl
  have e2 : (i : Int) + 2 = ((i + 2 : Nat) : Int) := rfl
  have e3 : (i : Int) + 3 = ((i + 3 : Nat) : Int) := rfl
  have e6 : (i : Int) + 6 = ((i + 6 : Nat) : Int) := rfl
  have st9 : stab scr 9 = scr := rfl
  have P1 := fun R => x10_classes 900 hX (w 1) (w 2) (w 3) R
  have M1 := hM
  have X1 := hX
  have L1 := h.2.2.2.2.2
  have a1 := MI_ws M1
  have c1 := a1.2.2.2.1
  have hA := a1.2.2.2.2.1
  have hG := a1.2.2.2.2.2
  have P2 := fun R => m_classes 900 hA hG h.2.2.1 (w 1) (w 2) (w 3) R
  have M2 := M1
  have X2 := X1
  have L2 := L1
  simp only [AW_k, AWk_1, x_aload_1, x_aloads_1, x_aload_0, x_aloads_0, x_iload_3, x_push_i, x_push_l, x_iadd, x_iald, x_ialds, x_callv_4, x_aload_2, x_aloads_2, x_icmp_eq, x_ret, x_ret_i, x_ret_z, x_ret_l, x_ret_c, x_iinc_3, x_goto, unl_i, unl_l, unl_q, unl_r, unl_s, unl_n, k_L_law_610, k_L_law_611, k_L_law_612, k_L_law_613, k_L_law_614, k_L_law_615, k_L_law_616, k_L_law_617, k_L_law_618, k_L_law_619, k_L_law_620, k_L_law_621, k_L_law_622, k_L_law_623, k_L_law_624, k_L_law_625, k_L_law_626, k_L_law_627, k_L_law_628, k_L_law_629, k_L_law_630, k_L_law_631, k_L_law_632, k_L_law_633, k_L_law_634, k_L_law_635, k_L_law_636, k_L_law_637, k_L_law_638, k_L_law_639, k_L_law_640, k_L_law_641, k_L_law_642, k_L_law_643, k_L_law_644, k_L_law_645, k_L_law_646, k_L_law_1316, k_L_law_1317, oE_some, Int.reduceToNat, Nat.reduceAdd, true_and, and_true, List.length_cons, List.length_nil, Option.toList_some, Option.toList_none, List.cons_append, List.nil_append, Nat.reduceLeDiff, Nat.le_refl, wdS_nil, wdS_i, wdS_l, wdS_r, wdS_n, wdS_s, c0, c1, st9, e1, (WSC_c hs 1 (by decide)).1, (WSC_c hs 1 (by decide)).2, e2, (WSC_c hs 2 (by decide)).1, (WSC_c hs 2 (by decide)).2, e3, (WSC_c hs 3 (by decide)).1, (WSC_c hs 3 (by decide)).2, P1, P2, e6, lCmp_self, ↓reduceIte]
  exact nx hp (WSI_of ⟨X2, M2, h.2.2.1, h.2.2.2.1, h.2.2.2.2.1, L2⟩)
set_option maxHeartbeats 16000000 in
theorem lw_25 {scr : List Int} {R : PO} {i : Nat} {B : BU} {hp : HP} {n : Nat} {G : BitVec 64} {z : Int} {c : Nat} {ks : List Int} {es : List Int} {ik : Bool} {kn : Nat} {kG : BitVec 64} {kz : Int} {kc : Nat} {kks : List Int} {kes : List Int} {tc : Nat} {tb : List Int} {sc : Nat} {tl : List Int} {so : List Int} {le : List Int} {it : Nat → List (BitVec 64)} {he : List Int} {th : List Int} {sl : List Int} {tr : Nat} {bo : List Int} (h : WLS hp n G z c ks es ik kn kG kz kc kks kes tc tb sc tl so le it he th sl tr bo) (hs : WSC scr i) (nx : WNX scr R (i + 6) B) : AW 1000 scr 302 R 647 [some (mS 9), some (mR 0), some (mR 54), some (mI (i : Int))] [] hp B := by
  have c0 := (WLS_c h).1
  have OK := XI_ok h.1
  have n16 := h.2.1.1.2
  have hX := h.1
  have hM := h.2.1
  have w := fun k => hs.2.2 (i + k)
  have e1 : (i : Int) + 1 = ((i + 1 : Nat) : Int) := rfl
  have e2 : (i : Int) + 2 = ((i + 2 : Nat) : Int) := rfl
  have e6 : (i : Int) + 6 = ((i + 6 : Nat) : Int) := rfl
  have st9 : stab scr 9 = scr := rfl
  obtain ⟨h1, X1, K1, P1⟩ := x10_rotations 900 hX (w 1) (w 2)
  have M1 := MI_class hM K1
  have L1 := Nat.le_trans h.2.2.2.2.2 K1.1
  have a1 := MI_ws M1
  have c1 := a1.2.2.2.1
  have hA := a1.2.2.2.2.1
  have hG := a1.2.2.2.2.2
  obtain ⟨h2, M2, F2, P2⟩ := x_rotations_m 900 M1 (w 1) (w 2)
  have X2 := XI_model X1 F2
  have L2 : 83 ≤ h2.length := by rw [F2.1]; exact L1
  simp only [AW_k, AWk_1, x_aload_1, x_aloads_1, x_aload_0, x_aloads_0, x_iload_3, x_push_i, x_push_l, x_iadd, x_iald, x_ialds, x_callv_3, x_aload_2, x_aloads_2, x_icmp_eq, x_ret, x_ret_i, x_ret_z, x_ret_l, x_ret_c, x_iinc_3, x_goto, unl_i, unl_l, unl_q, unl_r, unl_s, unl_n, k_L_law_647, k_L_law_648, k_L_law_649, k_L_law_650, k_L_law_651, k_L_law_652, k_L_law_653, k_L_law_654, k_L_law_655, k_L_law_656, k_L_law_657, k_L_law_658, k_L_law_659, k_L_law_660, k_L_law_661, k_L_law_662, k_L_law_663, k_L_law_664, k_L_law_665, k_L_law_666, k_L_law_667, k_L_law_668, k_L_law_669, k_L_law_670, k_L_law_671, k_L_law_672, k_L_law_673, k_L_law_1316, k_L_law_1317, oE_some, Int.reduceToNat, Nat.reduceAdd, true_and, and_true, List.length_cons, List.length_nil, Option.toList_some, Option.toList_none, List.cons_append, List.nil_append, Nat.reduceLeDiff, Nat.le_refl, wdS_nil, wdS_i, wdS_l, wdS_r, wdS_n, wdS_s, c0, c1, st9, e1, (WSC_c hs 1 (by decide)).1, (WSC_c hs 1 (by decide)).2, e2, (WSC_c hs 2 (by decide)).1, (WSC_c hs 2 (by decide)).2, P1, P2, e6, lCmp_self, ↓reduceIte]
  exact nx h2 (WSI_of ⟨X2, M2, h.2.2.1, h.2.2.2.1, h.2.2.2.2.1, L2⟩)
set_option maxHeartbeats 16000000 in
theorem lw_26 {scr : List Int} {R : PO} {i : Nat} {B : BU} {hp : HP} {n : Nat} {G : BitVec 64} {z : Int} {c : Nat} {ks : List Int} {es : List Int} {ik : Bool} {kn : Nat} {kG : BitVec 64} {kz : Int} {kc : Nat} {kks : List Int} {kes : List Int} {tc : Nat} {tb : List Int} {sc : Nat} {tl : List Int} {so : List Int} {le : List Int} {it : Nat → List (BitVec 64)} {he : List Int} {th : List Int} {sl : List Int} {tr : Nat} {bo : List Int} (h : WLS hp n G z c ks es ik kn kG kz kc kks kes tc tb sc tl so le it he th sl tr bo) (hs : WSC scr i) (nx : WNX scr R (i + 6) B) : AW 1000 scr 302 R 674 [some (mS 9), some (mR 0), some (mR 54), some (mI (i : Int))] [] hp B := by
  have c0 := (WLS_c h).1
  have OK := XI_ok h.1
  have n16 := h.2.1.1.2
  have hX := h.1
  have hM := h.2.1
  have w := fun k => hs.2.2 (i + k)
  have e1 : (i : Int) + 1 = ((i + 1 : Nat) : Int) := rfl
  have e2 : (i : Int) + 2 = ((i + 2 : Nat) : Int) := rfl
  have e3 : (i : Int) + 3 = ((i + 3 : Nat) : Int) := rfl
  have e6 : (i : Int) + 6 = ((i + 6 : Nat) : Int) := rfl
  have st9 : stab scr 9 = scr := rfl
  obtain ⟨h1, X1, K1, P1⟩ := x10_rotate 900 hX (w 1) (w 2) (w 3)
  have M1 := MI_class hM K1
  have L1 := Nat.le_trans h.2.2.2.2.2 K1.1
  have a1 := MI_ws M1
  have c1 := a1.2.2.2.1
  have hA := a1.2.2.2.2.1
  have hG := a1.2.2.2.2.2
  obtain ⟨h2, M2, F2, P2⟩ := x_rotate_m 900 M1 (w 1) (w 2) (w 3)
  have X2 := XI_model X1 F2
  have L2 : 83 ≤ h2.length := by rw [F2.1]; exact L1
  simp only [AW_k, AWk_1, x_aload_1, x_aloads_1, x_aload_0, x_aloads_0, x_iload_3, x_push_i, x_push_l, x_iadd, x_iald, x_ialds, x_callv_4, x_aload_2, x_aloads_2, x_icmp_eq, x_ret, x_ret_i, x_ret_z, x_ret_l, x_ret_c, x_iinc_3, x_goto, unl_i, unl_l, unl_q, unl_r, unl_s, unl_n, k_L_law_674, k_L_law_675, k_L_law_676, k_L_law_677, k_L_law_678, k_L_law_679, k_L_law_680, k_L_law_681, k_L_law_682, k_L_law_683, k_L_law_684, k_L_law_685, k_L_law_686, k_L_law_687, k_L_law_688, k_L_law_689, k_L_law_690, k_L_law_691, k_L_law_692, k_L_law_693, k_L_law_694, k_L_law_695, k_L_law_696, k_L_law_697, k_L_law_698, k_L_law_699, k_L_law_700, k_L_law_701, k_L_law_702, k_L_law_703, k_L_law_704, k_L_law_705, k_L_law_706, k_L_law_707, k_L_law_708, k_L_law_709, k_L_law_710, k_L_law_1316, k_L_law_1317, oE_some, Int.reduceToNat, Nat.reduceAdd, true_and, and_true, List.length_cons, List.length_nil, Option.toList_some, Option.toList_none, List.cons_append, List.nil_append, Nat.reduceLeDiff, Nat.le_refl, wdS_nil, wdS_i, wdS_l, wdS_r, wdS_n, wdS_s, c0, c1, st9, e1, (WSC_c hs 1 (by decide)).1, (WSC_c hs 1 (by decide)).2, e2, (WSC_c hs 2 (by decide)).1, (WSC_c hs 2 (by decide)).2, e3, (WSC_c hs 3 (by decide)).1, (WSC_c hs 3 (by decide)).2, P1, P2, e6, lCmp_self, ↓reduceIte]
  exact nx h2 (WSI_of ⟨X2, M2, h.2.2.1, h.2.2.2.1, h.2.2.2.2.1, L2⟩)
set_option maxHeartbeats 16000000 in
theorem lw_27 {scr : List Int} {R : PO} {i : Nat} {B : BU} {hp : HP} {n : Nat} {G : BitVec 64} {z : Int} {c : Nat} {ks : List Int} {es : List Int} {ik : Bool} {kn : Nat} {kG : BitVec 64} {kz : Int} {kc : Nat} {kks : List Int} {kes : List Int} {tc : Nat} {tb : List Int} {sc : Nat} {tl : List Int} {so : List Int} {le : List Int} {it : Nat → List (BitVec 64)} {he : List Int} {th : List Int} {sl : List Int} {tr : Nat} {bo : List Int} (h : WLS hp n G z c ks es ik kn kG kz kc kks kes tc tb sc tl so le it he th sl tr bo) (hs : WSC scr i) (nx : WNX scr R (i + 6) B) : AW 1000 scr 302 R 711 [some (mS 9), some (mR 0), some (mR 54), some (mI (i : Int))] [] hp B := by
  have c0 := (WLS_c h).1
  have OK := XI_ok h.1
  have n16 := h.2.1.1.2
  have hX := h.1
  have hM := h.2.1
  have w := fun k => hs.2.2 (i + k)
  have e1 : (i : Int) + 1 = ((i + 1 : Nat) : Int) := rfl
  have e2 : (i : Int) + 2 = ((i + 2 : Nat) : Int) := rfl
  have e6 : (i : Int) + 6 = ((i + 6 : Nat) : Int) := rfl
  have st9 : stab scr 9 = scr := rfl
  obtain ⟨h1, X1, K1, P1⟩ := x10_apart 900 hX (w 1) (w 2)
  have M1 := MI_class hM K1
  have L1 := Nat.le_trans h.2.2.2.2.2 K1.1
  have a1 := MI_ws M1
  have c1 := a1.2.2.2.1
  have hA := a1.2.2.2.2.1
  have hG := a1.2.2.2.2.2
  obtain ⟨h2, M2, F2, P2⟩ := x_apart_m 900 M1 (w 1) (w 2) h.2.2.1
  have X2 := XI_model X1 F2
  have L2 : 83 ≤ h2.length := by rw [F2.1]; exact L1
  simp only [AW_k, AWk_1, x_aload_1, x_aloads_1, x_aload_0, x_aloads_0, x_iload_3, x_push_i, x_push_l, x_iadd, x_iald, x_ialds, x_callv_3, x_aload_2, x_aloads_2, x_icmp_eq, x_ret, x_ret_i, x_ret_z, x_ret_l, x_ret_c, x_iinc_3, x_goto, unl_i, unl_l, unl_q, unl_r, unl_s, unl_n, k_L_law_711, k_L_law_712, k_L_law_713, k_L_law_714, k_L_law_715, k_L_law_716, k_L_law_717, k_L_law_718, k_L_law_719, k_L_law_720, k_L_law_721, k_L_law_722, k_L_law_723, k_L_law_724, k_L_law_725, k_L_law_726, k_L_law_727, k_L_law_728, k_L_law_729, k_L_law_730, k_L_law_731, k_L_law_732, k_L_law_733, k_L_law_734, k_L_law_735, k_L_law_736, k_L_law_737, k_L_law_1316, k_L_law_1317, oE_some, Int.reduceToNat, Nat.reduceAdd, true_and, and_true, List.length_cons, List.length_nil, Option.toList_some, Option.toList_none, List.cons_append, List.nil_append, Nat.reduceLeDiff, Nat.le_refl, wdS_nil, wdS_i, wdS_l, wdS_r, wdS_n, wdS_s, c0, c1, st9, e1, (WSC_c hs 1 (by decide)).1, (WSC_c hs 1 (by decide)).2, e2, (WSC_c hs 2 (by decide)).1, (WSC_c hs 2 (by decide)).2, P1, P2, e6, lCmp_self, ↓reduceIte]
  exact nx h2 (WSI_of ⟨X2, M2, h.2.2.1, h.2.2.2.1, h.2.2.2.2.1, L2⟩)
set_option maxHeartbeats 16000000 in
theorem lw_29 {scr : List Int} {R : PO} {i : Nat} {B : BU} {hp : HP} {n : Nat} {G : BitVec 64} {z : Int} {c : Nat} {ks : List Int} {es : List Int} {ik : Bool} {kn : Nat} {kG : BitVec 64} {kz : Int} {kc : Nat} {kks : List Int} {kes : List Int} {tc : Nat} {tb : List Int} {sc : Nat} {tl : List Int} {so : List Int} {le : List Int} {it : Nat → List (BitVec 64)} {he : List Int} {th : List Int} {sl : List Int} {tr : Nat} {bo : List Int} (h : WLS hp n G z c ks es ik kn kG kz kc kks kes tc tb sc tl so le it he th sl tr bo) (hs : WSC scr i) (nx : WNX scr R (i + 6) B) : AW 1000 scr 302 R 755 [some (mS 9), some (mR 0), some (mR 54), some (mI (i : Int))] [] hp B := by
  have c0 := (WLS_c h).1
  have OK := XI_ok h.1
  have n16 := h.2.1.1.2
  have hX := h.1
  have hM := h.2.1
  have w := fun k => hs.2.2 (i + k)
  have e1 : (i : Int) + 1 = ((i + 1 : Nat) : Int) := rfl
  have e6 : (i : Int) + 6 = ((i + 6 : Nat) : Int) := rfl
  have st9 : stab scr 9 = scr := rfl
  obtain ⟨h1, X1, K1, P1⟩ := x10_listed 900 hX (w 1)
  have M1 := MI_class hM K1
  have L1 := Nat.le_trans h.2.2.2.2.2 K1.1
  have a1 := MI_ws M1
  have c1 := a1.2.2.2.1
  have hA := a1.2.2.2.2.1
  have hG := a1.2.2.2.2.2
  obtain ⟨h2, M2, F2, P2⟩ := x_listed_m 900 M1 (w 1)
  have X2 := XI_model X1 F2
  have L2 : 83 ≤ h2.length := by rw [F2.1]; exact L1
  simp only [AW_k, AWk_1, x_aload_1, x_aloads_1, x_aload_0, x_aloads_0, x_iload_3, x_push_i, x_push_l, x_iadd, x_iald, x_ialds, x_callv_2, x_aload_2, x_aloads_2, x_icmp_eq, x_ret, x_ret_i, x_ret_z, x_ret_l, x_ret_c, x_iinc_3, x_goto, unl_i, unl_l, unl_q, unl_r, unl_s, unl_n, k_L_law_755, k_L_law_756, k_L_law_757, k_L_law_758, k_L_law_759, k_L_law_760, k_L_law_761, k_L_law_762, k_L_law_763, k_L_law_764, k_L_law_765, k_L_law_766, k_L_law_767, k_L_law_768, k_L_law_769, k_L_law_770, k_L_law_771, k_L_law_1316, k_L_law_1317, oE_some, Int.reduceToNat, Nat.reduceAdd, true_and, and_true, List.length_cons, List.length_nil, Option.toList_some, Option.toList_none, List.cons_append, List.nil_append, Nat.reduceLeDiff, Nat.le_refl, wdS_nil, wdS_i, wdS_l, wdS_r, wdS_n, wdS_s, c0, c1, st9, e1, (WSC_c hs 1 (by decide)).1, (WSC_c hs 1 (by decide)).2, P1, P2, e6, lCmp_self, ↓reduceIte]
  exact nx h2 (WSI_of ⟨X2, M2, h.2.2.1, h.2.2.2.1, h.2.2.2.2.1, L2⟩)
set_option maxHeartbeats 16000000 in
theorem lw_30 {scr : List Int} {R : PO} {i : Nat} {B : BU} {hp : HP} {n : Nat} {G : BitVec 64} {z : Int} {c : Nat} {ks : List Int} {es : List Int} {ik : Bool} {kn : Nat} {kG : BitVec 64} {kz : Int} {kc : Nat} {kks : List Int} {kes : List Int} {tc : Nat} {tb : List Int} {sc : Nat} {tl : List Int} {so : List Int} {le : List Int} {it : Nat → List (BitVec 64)} {he : List Int} {th : List Int} {sl : List Int} {tr : Nat} {bo : List Int} (h : WLS hp n G z c ks es ik kn kG kz kc kks kes tc tb sc tl so le it he th sl tr bo) (hs : WSC scr i) (nx : WNX scr R (i + 6) B) : AW 1000 scr 302 R 772 [some (mS 9), some (mR 0), some (mR 54), some (mI (i : Int))] [] hp B := by
  have c0 := (WLS_c h).1
  have OK := XI_ok h.1
  have n16 := h.2.1.1.2
  have hX := h.1
  have hM := h.2.1
  have w := fun k => hs.2.2 (i + k)
  have e1 : (i : Int) + 1 = ((i + 1 : Nat) : Int) := rfl
  have e6 : (i : Int) + 6 = ((i + 6 : Nat) : Int) := rfl
  have st9 : stab scr 9 = scr := rfl
  have P1 := fun R => x10_closed 900 hX (w 1) R
  have M1 := hM
  have X1 := hX
  have L1 := h.2.2.2.2.2
  have a1 := MI_ws M1
  have c1 := a1.2.2.2.1
  have hA := a1.2.2.2.2.1
  have hG := a1.2.2.2.2.2
  have P2 := fun R => x_closed_m 900 M1 (w 1) R
  have M2 := M1
  have X2 := X1
  have L2 := L1
  simp only [AW_k, AWk_1, x_aload_1, x_aloads_1, x_aload_0, x_aloads_0, x_iload_3, x_push_i, x_push_l, x_iadd, x_iald, x_ialds, x_callv_2, x_aload_2, x_aloads_2, x_icmp_eq, x_ret, x_ret_i, x_ret_z, x_ret_l, x_ret_c, x_iinc_3, x_goto, unl_i, unl_l, unl_q, unl_r, unl_s, unl_n, k_L_law_772, k_L_law_773, k_L_law_774, k_L_law_775, k_L_law_776, k_L_law_777, k_L_law_778, k_L_law_779, k_L_law_780, k_L_law_781, k_L_law_782, k_L_law_783, k_L_law_784, k_L_law_785, k_L_law_786, k_L_law_787, k_L_law_788, k_L_law_1316, k_L_law_1317, oE_some, Int.reduceToNat, Nat.reduceAdd, true_and, and_true, List.length_cons, List.length_nil, Option.toList_some, Option.toList_none, List.cons_append, List.nil_append, Nat.reduceLeDiff, Nat.le_refl, wdS_nil, wdS_i, wdS_l, wdS_r, wdS_n, wdS_s, c0, c1, st9, e1, (WSC_c hs 1 (by decide)).1, (WSC_c hs 1 (by decide)).2, P1, P2, e6, lCmp_self, ↓reduceIte]
  exact nx hp (WSI_of ⟨X2, M2, h.2.2.1, h.2.2.2.1, h.2.2.2.2.1, L2⟩)
set_option maxHeartbeats 16000000 in
theorem lw_31 {scr : List Int} {R : PO} {i : Nat} {B : BU} {hp : HP} {n : Nat} {G : BitVec 64} {z : Int} {c : Nat} {ks : List Int} {es : List Int} {ik : Bool} {kn : Nat} {kG : BitVec 64} {kz : Int} {kc : Nat} {kks : List Int} {kes : List Int} {tc : Nat} {tb : List Int} {sc : Nat} {tl : List Int} {so : List Int} {le : List Int} {it : Nat → List (BitVec 64)} {he : List Int} {th : List Int} {sl : List Int} {tr : Nat} {bo : List Int} (h : WLS hp n G z c ks es ik kn kG kz kc kks kes tc tb sc tl so le it he th sl tr bo) (hs : WSC scr i) (nx : WNX scr R (i + 6) B) : AW 1000 scr 302 R 789 [some (mS 9), some (mR 0), some (mR 54), some (mI (i : Int))] [] hp B := by
  have c0 := (WLS_c h).1
  have OK := XI_ok h.1
  have n16 := h.2.1.1.2
  have hX := h.1
  have hM := h.2.1
  have w := fun k => hs.2.2 (i + k)
  have e1 : (i : Int) + 1 = ((i + 1 : Nat) : Int) := rfl
  have e2 : (i : Int) + 2 = ((i + 2 : Nat) : Int) := rfl
  have e6 : (i : Int) + 6 = ((i + 6 : Nat) : Int) := rfl
  have st9 : stab scr 9 = scr := rfl
  have P1 := fun R => x10_whatIs 900 hX (w 1) (w 2) R
  have M1 := hM
  have X1 := hX
  have L1 := h.2.2.2.2.2
  have a1 := MI_ws M1
  have c1 := a1.2.2.2.1
  have hA := a1.2.2.2.2.1
  have hG := a1.2.2.2.2.2
  have P2 := fun R => x_whatIs_m 900 M1 OK.2.1 h.2.2.2.2.1 (w 1) (w 2) R
  have M2 := M1
  have X2 := X1
  have L2 := L1
  simp only [AW_k, AWk_1, x_aload_1, x_aloads_1, x_aload_0, x_aloads_0, x_iload_3, x_push_i, x_push_l, x_iadd, x_iald, x_ialds, x_callv_3, x_aload_2, x_aloads_2, x_icmp_eq, x_ret, x_ret_i, x_ret_z, x_ret_l, x_ret_c, x_iinc_3, x_goto, unl_i, unl_l, unl_q, unl_r, unl_s, unl_n, k_L_law_789, k_L_law_790, k_L_law_791, k_L_law_792, k_L_law_793, k_L_law_794, k_L_law_795, k_L_law_796, k_L_law_797, k_L_law_798, k_L_law_799, k_L_law_800, k_L_law_801, k_L_law_802, k_L_law_803, k_L_law_804, k_L_law_805, k_L_law_806, k_L_law_807, k_L_law_808, k_L_law_809, k_L_law_810, k_L_law_811, k_L_law_812, k_L_law_813, k_L_law_814, k_L_law_815, k_L_law_1316, k_L_law_1317, oE_some, Int.reduceToNat, Nat.reduceAdd, true_and, and_true, List.length_cons, List.length_nil, Option.toList_some, Option.toList_none, List.cons_append, List.nil_append, Nat.reduceLeDiff, Nat.le_refl, wdS_nil, wdS_i, wdS_l, wdS_r, wdS_n, wdS_s, c0, c1, st9, e1, (WSC_c hs 1 (by decide)).1, (WSC_c hs 1 (by decide)).2, e2, (WSC_c hs 2 (by decide)).1, (WSC_c hs 2 (by decide)).2, P1, P2, e6, lCmp_self, ↓reduceIte]
  exact nx hp (WSI_of ⟨X2, M2, h.2.2.1, h.2.2.2.1, h.2.2.2.2.1, L2⟩)
set_option maxHeartbeats 16000000 in
theorem lw_32 {scr : List Int} {R : PO} {i : Nat} {B : BU} {hp : HP} {n : Nat} {G : BitVec 64} {z : Int} {c : Nat} {ks : List Int} {es : List Int} {ik : Bool} {kn : Nat} {kG : BitVec 64} {kz : Int} {kc : Nat} {kks : List Int} {kes : List Int} {tc : Nat} {tb : List Int} {sc : Nat} {tl : List Int} {so : List Int} {le : List Int} {it : Nat → List (BitVec 64)} {he : List Int} {th : List Int} {sl : List Int} {tr : Nat} {bo : List Int} (h : WLS hp n G z c ks es ik kn kG kz kc kks kes tc tb sc tl so le it he th sl tr bo) (hs : WSC scr i) (nx : WNX scr R (i + 6) B) : AW 1000 scr 302 R 816 [some (mS 9), some (mR 0), some (mR 54), some (mI (i : Int))] [] hp B := by
  have c0 := (WLS_c h).1
  have OK := XI_ok h.1
  have n16 := h.2.1.1.2
  have hX := h.1
  have hM := h.2.1
  have w := fun k => hs.2.2 (i + k)
  have e1 : (i : Int) + 1 = ((i + 1 : Nat) : Int) := rfl
  have e6 : (i : Int) + 6 = ((i + 6 : Nat) : Int) := rfl
  have st9 : stab scr 9 = scr := rfl
  obtain ⟨h1, X1, K1, P1⟩ := x10_seed 900 hX (x := scr.getD (i + 1) 0)
  have M1 := MI_class hM K1
  have L1 := Nat.le_trans h.2.2.2.2.2 K1.1
  have a1 := MI_ws M1
  have c1 := a1.2.2.2.1
  have hA := a1.2.2.2.2.1
  have hG := a1.2.2.2.2.2
  obtain ⟨h2, M2, F2, P2⟩ := x_seed_m 900 M1 (x := scr.getD (i + 1) 0)
  have X2 := XI_model X1 F2
  have L2 : 83 ≤ h2.length := by rw [F2.1]; exact L1
  simp only [AW_k, AWk_1, x_aload_1, x_aloads_1, x_aload_0, x_aloads_0, x_iload_3, x_push_i, x_push_l, x_iadd, x_iald, x_ialds, x_callv_2, x_aload_2, x_aloads_2, x_icmp_eq, x_ret, x_ret_i, x_ret_z, x_ret_l, x_ret_c, x_iinc_3, x_goto, unl_i, unl_l, unl_q, unl_r, unl_s, unl_n, k_L_law_816, k_L_law_817, k_L_law_818, k_L_law_819, k_L_law_820, k_L_law_821, k_L_law_822, k_L_law_823, k_L_law_824, k_L_law_825, k_L_law_826, k_L_law_827, k_L_law_828, k_L_law_829, k_L_law_830, k_L_law_831, k_L_law_832, k_L_law_1316, k_L_law_1317, oE_some, Int.reduceToNat, Nat.reduceAdd, true_and, and_true, List.length_cons, List.length_nil, Option.toList_some, Option.toList_none, List.cons_append, List.nil_append, Nat.reduceLeDiff, Nat.le_refl, wdS_nil, wdS_i, wdS_l, wdS_r, wdS_n, wdS_s, c0, c1, st9, e1, (WSC_c hs 1 (by decide)).1, (WSC_c hs 1 (by decide)).2, P1, P2, e6, lCmp_self, ↓reduceIte]
  exact nx h2 (WSI_of ⟨X2, M2, h.2.2.1, h.2.2.2.1, h.2.2.2.2.1, L2⟩)
set_option maxHeartbeats 16000000 in
theorem lw_33 {scr : List Int} {R : PO} {i : Nat} {B : BU} {hp : HP} {n : Nat} {G : BitVec 64} {z : Int} {c : Nat} {ks : List Int} {es : List Int} {ik : Bool} {kn : Nat} {kG : BitVec 64} {kz : Int} {kc : Nat} {kks : List Int} {kes : List Int} {tc : Nat} {tb : List Int} {sc : Nat} {tl : List Int} {so : List Int} {le : List Int} {it : Nat → List (BitVec 64)} {he : List Int} {th : List Int} {sl : List Int} {tr : Nat} {bo : List Int} (h : WLS hp n G z c ks es ik kn kG kz kc kks kes tc tb sc tl so le it he th sl tr bo) (hs : WSC scr i) (nx : WNX scr R (i + 6) B) : AW 1000 scr 302 R 833 [some (mS 9), some (mR 0), some (mR 54), some (mI (i : Int))] [] hp B := by
  have c0 := (WLS_c h).1
  have OK := XI_ok h.1
  have n16 := h.2.1.1.2
  have hX := h.1
  have hM := h.2.1
  have w := fun k => hs.2.2 (i + k)
  have e1 : (i : Int) + 1 = ((i + 1 : Nat) : Int) := rfl
  have e6 : (i : Int) + 6 = ((i + 6 : Nat) : Int) := rfl
  have st9 : stab scr 9 = scr := rfl
  obtain ⟨h1, X1, K1, P1⟩ := x10_drawn 900 hX (w 1)
  have M1 := MI_class hM K1
  have L1 := Nat.le_trans h.2.2.2.2.2 K1.1
  have a1 := MI_ws M1
  have c1 := a1.2.2.2.1
  have hA := a1.2.2.2.2.1
  have hG := a1.2.2.2.2.2
  obtain ⟨h2, M2, F2, P2⟩ := x_drawn_m 900 M1 (w 1)
  have X2 := XI_model X1 F2
  have L2 : 83 ≤ h2.length := by rw [F2.1]; exact L1
  simp only [AW_k, AWk_1, x_aload_1, x_aloads_1, x_aload_0, x_aloads_0, x_iload_3, x_push_i, x_push_l, x_iadd, x_iald, x_ialds, x_callv_2, x_aload_2, x_aloads_2, x_icmp_eq, x_ret, x_ret_i, x_ret_z, x_ret_l, x_ret_c, x_iinc_3, x_goto, unl_i, unl_l, unl_q, unl_r, unl_s, unl_n, k_L_law_833, k_L_law_834, k_L_law_835, k_L_law_836, k_L_law_837, k_L_law_838, k_L_law_839, k_L_law_840, k_L_law_841, k_L_law_842, k_L_law_843, k_L_law_844, k_L_law_845, k_L_law_846, k_L_law_847, k_L_law_848, k_L_law_849, k_L_law_1316, k_L_law_1317, oE_some, Int.reduceToNat, Nat.reduceAdd, true_and, and_true, List.length_cons, List.length_nil, Option.toList_some, Option.toList_none, List.cons_append, List.nil_append, Nat.reduceLeDiff, Nat.le_refl, wdS_nil, wdS_i, wdS_l, wdS_r, wdS_n, wdS_s, c0, c1, st9, e1, (WSC_c hs 1 (by decide)).1, (WSC_c hs 1 (by decide)).2, P1, P2, e6, lCmp_self, ↓reduceIte]
  exact nx h2 (WSI_of ⟨X2, M2, h.2.2.1, h.2.2.2.1, h.2.2.2.2.1, L2⟩)
set_option maxHeartbeats 16000000 in
theorem lw_34 {scr : List Int} {R : PO} {i : Nat} {B : BU} {hp : HP} {n : Nat} {G : BitVec 64} {z : Int} {c : Nat} {ks : List Int} {es : List Int} {ik : Bool} {kn : Nat} {kG : BitVec 64} {kz : Int} {kc : Nat} {kks : List Int} {kes : List Int} {tc : Nat} {tb : List Int} {sc : Nat} {tl : List Int} {so : List Int} {le : List Int} {it : Nat → List (BitVec 64)} {he : List Int} {th : List Int} {sl : List Int} {tr : Nat} {bo : List Int} (h : WLS hp n G z c ks es ik kn kG kz kc kks kes tc tb sc tl so le it he th sl tr bo) (hs : WSC scr i) (nx : WNX scr R (i + 6) B) : AW 1000 scr 302 R 850 [some (mS 9), some (mR 0), some (mR 54), some (mI (i : Int))] [] hp B := by
  have c0 := (WLS_c h).1
  have OK := XI_ok h.1
  have n16 := h.2.1.1.2
  have hX := h.1
  have hM := h.2.1
  have w := fun k => hs.2.2 (i + k)
  have e1 : (i : Int) + 1 = ((i + 1 : Nat) : Int) := rfl
  have e6 : (i : Int) + 6 = ((i + 6 : Nat) : Int) := rfl
  have st9 : stab scr 9 = scr := rfl
  obtain ⟨h1, X1, K1, P1⟩ := x10_prove 900 hX (w 1)
  have M1 := MI_class hM K1
  have L1 := Nat.le_trans h.2.2.2.2.2 K1.1
  have a1 := MI_ws M1
  have c1 := a1.2.2.2.1
  have hA := a1.2.2.2.2.1
  have hG := a1.2.2.2.2.2
  obtain ⟨h2, M2, F2, P2⟩ := x_prove_m 900 M1 (w 1)
  have X2 := XI_model X1 F2
  have L2 : 83 ≤ h2.length := by rw [F2.1]; exact L1
  simp only [AW_k, AWk_1, x_aload_1, x_aloads_1, x_aload_0, x_aloads_0, x_iload_3, x_push_i, x_push_l, x_iadd, x_iald, x_ialds, x_callv_2, x_aload_2, x_aloads_2, x_icmp_eq, x_ret, x_ret_i, x_ret_z, x_ret_l, x_ret_c, x_iinc_3, x_goto, unl_i, unl_l, unl_q, unl_r, unl_s, unl_n, k_L_law_850, k_L_law_851, k_L_law_852, k_L_law_853, k_L_law_854, k_L_law_855, k_L_law_856, k_L_law_857, k_L_law_858, k_L_law_859, k_L_law_860, k_L_law_861, k_L_law_862, k_L_law_863, k_L_law_864, k_L_law_865, k_L_law_866, k_L_law_1316, k_L_law_1317, oE_some, Int.reduceToNat, Nat.reduceAdd, true_and, and_true, List.length_cons, List.length_nil, Option.toList_some, Option.toList_none, List.cons_append, List.nil_append, Nat.reduceLeDiff, Nat.le_refl, wdS_nil, wdS_i, wdS_l, wdS_r, wdS_n, wdS_s, c0, c1, st9, e1, (WSC_c hs 1 (by decide)).1, (WSC_c hs 1 (by decide)).2, P1, P2, e6, lCmp_self, ↓reduceIte]
  exact nx h2 (WSI_of ⟨X2, M2, h.2.2.1, h.2.2.2.1, h.2.2.2.2.1, L2⟩)
set_option maxHeartbeats 16000000 in
theorem lw_35 {scr : List Int} {R : PO} {i : Nat} {B : BU} {hp : HP} {n : Nat} {G : BitVec 64} {z : Int} {c : Nat} {ks : List Int} {es : List Int} {ik : Bool} {kn : Nat} {kG : BitVec 64} {kz : Int} {kc : Nat} {kks : List Int} {kes : List Int} {tc : Nat} {tb : List Int} {sc : Nat} {tl : List Int} {so : List Int} {le : List Int} {it : Nat → List (BitVec 64)} {he : List Int} {th : List Int} {sl : List Int} {tr : Nat} {bo : List Int} (h : WLS hp n G z c ks es ik kn kG kz kc kks kes tc tb sc tl so le it he th sl tr bo) (hs : WSC scr i) (nx : WNX scr R (i + 6) B) : AW 1000 scr 302 R 867 [some (mS 9), some (mR 0), some (mR 54), some (mI (i : Int))] [] hp B := by
  have c0 := (WLS_c h).1
  have OK := XI_ok h.1
  have n16 := h.2.1.1.2
  have hX := h.1
  have hM := h.2.1
  have w := fun k => hs.2.2 (i + k)
  have e1 : (i : Int) + 1 = ((i + 1 : Nat) : Int) := rfl
  have e2 : (i : Int) + 2 = ((i + 2 : Nat) : Int) := rfl
  have e6 : (i : Int) + 6 = ((i + 6 : Nat) : Int) := rfl
  have st9 : stab scr 9 = scr := rfl
  have P1 := fun R => x10_step 900 hX (w 1) (w 2) R
  have M1 := hM
  have X1 := hX
  have L1 := h.2.2.2.2.2
  have a1 := MI_ws M1
  have c1 := a1.2.2.2.1
  have hA := a1.2.2.2.2.1
  have hG := a1.2.2.2.2.2
  have P2 := fun R => x_step_m 900 M1 OK.2.2.2.1 (w 1) (w 2) R
  have M2 := M1
  have X2 := X1
  have L2 := L1
  simp only [AW_k, AWk_1, x_aload_1, x_aloads_1, x_aload_0, x_aloads_0, x_iload_3, x_push_i, x_push_l, x_iadd, x_iald, x_ialds, x_callv_3, x_aload_2, x_aloads_2, x_icmp_eq, x_ret, x_ret_i, x_ret_z, x_ret_l, x_ret_c, x_iinc_3, x_goto, unl_i, unl_l, unl_q, unl_r, unl_s, unl_n, k_L_law_867, k_L_law_868, k_L_law_869, k_L_law_870, k_L_law_871, k_L_law_872, k_L_law_873, k_L_law_874, k_L_law_875, k_L_law_876, k_L_law_877, k_L_law_878, k_L_law_879, k_L_law_880, k_L_law_881, k_L_law_882, k_L_law_883, k_L_law_884, k_L_law_885, k_L_law_886, k_L_law_887, k_L_law_888, k_L_law_889, k_L_law_890, k_L_law_891, k_L_law_892, k_L_law_893, k_L_law_1316, k_L_law_1317, oE_some, Int.reduceToNat, Nat.reduceAdd, true_and, and_true, List.length_cons, List.length_nil, Option.toList_some, Option.toList_none, List.cons_append, List.nil_append, Nat.reduceLeDiff, Nat.le_refl, wdS_nil, wdS_i, wdS_l, wdS_r, wdS_n, wdS_s, c0, c1, st9, e1, (WSC_c hs 1 (by decide)).1, (WSC_c hs 1 (by decide)).2, e2, (WSC_c hs 2 (by decide)).1, (WSC_c hs 2 (by decide)).2, P1, P2, e6, lCmp_self, ↓reduceIte]
  exact nx hp (WSI_of ⟨X2, M2, h.2.2.1, h.2.2.2.1, h.2.2.2.2.1, L2⟩)
set_option maxHeartbeats 16000000 in
theorem lw_36 {scr : List Int} {R : PO} {i : Nat} {B : BU} {hp : HP} {n : Nat} {G : BitVec 64} {z : Int} {c : Nat} {ks : List Int} {es : List Int} {ik : Bool} {kn : Nat} {kG : BitVec 64} {kz : Int} {kc : Nat} {kks : List Int} {kes : List Int} {tc : Nat} {tb : List Int} {sc : Nat} {tl : List Int} {so : List Int} {le : List Int} {it : Nat → List (BitVec 64)} {he : List Int} {th : List Int} {sl : List Int} {tr : Nat} {bo : List Int} (h : WLS hp n G z c ks es ik kn kG kz kc kks kes tc tb sc tl so le it he th sl tr bo) (hs : WSC scr i) (nx : WNX scr R (i + 6) B) : AW 1000 scr 302 R 894 [some (mS 9), some (mR 0), some (mR 54), some (mI (i : Int))] [] hp B := by
  have c0 := (WLS_c h).1
  have OK := XI_ok h.1
  have n16 := h.2.1.1.2
  have hX := h.1
  have hM := h.2.1
  have w := fun k => hs.2.2 (i + k)
  have e1 : (i : Int) + 1 = ((i + 1 : Nat) : Int) := rfl
  have e2 : (i : Int) + 2 = ((i + 2 : Nat) : Int) := rfl
  have e3 : (i : Int) + 3 = ((i + 3 : Nat) : Int) := rfl
  have e6 : (i : Int) + 6 = ((i + 6 : Nat) : Int) := rfl
  have st9 : stab scr 9 = scr := rfl
  obtain ⟨h1, X1, K1, P1⟩ := x10_alterStep 900 hX (w 1) (w 2) (w 3)
  have M1 := MI_class hM K1
  have L1 := Nat.le_trans h.2.2.2.2.2 K1.1
  have a1 := MI_ws M1
  have c1 := a1.2.2.2.1
  have hA := a1.2.2.2.2.1
  have hG := a1.2.2.2.2.2
  obtain ⟨h2, M2, F2, P2⟩ := x_alterStep_m 900 M1 OK.2.2.2.1 (w 1) (w 2) (w 3)
  have X2 := XI_model X1 F2
  have L2 : 83 ≤ h2.length := by rw [F2.1]; exact L1
  simp only [AW_k, AWk_1, x_aload_1, x_aloads_1, x_aload_0, x_aloads_0, x_iload_3, x_push_i, x_push_l, x_iadd, x_iald, x_ialds, x_callv_4, x_aload_2, x_aloads_2, x_icmp_eq, x_ret, x_ret_i, x_ret_z, x_ret_l, x_ret_c, x_iinc_3, x_goto, unl_i, unl_l, unl_q, unl_r, unl_s, unl_n, k_L_law_894, k_L_law_895, k_L_law_896, k_L_law_897, k_L_law_898, k_L_law_899, k_L_law_900, k_L_law_901, k_L_law_902, k_L_law_903, k_L_law_904, k_L_law_905, k_L_law_906, k_L_law_907, k_L_law_908, k_L_law_909, k_L_law_910, k_L_law_911, k_L_law_912, k_L_law_913, k_L_law_914, k_L_law_915, k_L_law_916, k_L_law_917, k_L_law_918, k_L_law_919, k_L_law_920, k_L_law_921, k_L_law_922, k_L_law_923, k_L_law_924, k_L_law_925, k_L_law_926, k_L_law_927, k_L_law_928, k_L_law_929, k_L_law_930, k_L_law_1316, k_L_law_1317, oE_some, Int.reduceToNat, Nat.reduceAdd, true_and, and_true, List.length_cons, List.length_nil, Option.toList_some, Option.toList_none, List.cons_append, List.nil_append, Nat.reduceLeDiff, Nat.le_refl, wdS_nil, wdS_i, wdS_l, wdS_r, wdS_n, wdS_s, c0, c1, st9, e1, (WSC_c hs 1 (by decide)).1, (WSC_c hs 1 (by decide)).2, e2, (WSC_c hs 2 (by decide)).1, (WSC_c hs 2 (by decide)).2, e3, (WSC_c hs 3 (by decide)).1, (WSC_c hs 3 (by decide)).2, P1, P2, e6, lCmp_self, ↓reduceIte]
  exact nx h2 (WSI_of ⟨X2, M2, h.2.2.1, h.2.2.2.1, h.2.2.2.2.1, L2⟩)
set_option maxHeartbeats 16000000 in
theorem lw_37 {scr : List Int} {R : PO} {i : Nat} {B : BU} {hp : HP} {n : Nat} {G : BitVec 64} {z : Int} {c : Nat} {ks : List Int} {es : List Int} {ik : Bool} {kn : Nat} {kG : BitVec 64} {kz : Int} {kc : Nat} {kks : List Int} {kes : List Int} {tc : Nat} {tb : List Int} {sc : Nat} {tl : List Int} {so : List Int} {le : List Int} {it : Nat → List (BitVec 64)} {he : List Int} {th : List Int} {sl : List Int} {tr : Nat} {bo : List Int} (h : WLS hp n G z c ks es ik kn kG kz kc kks kes tc tb sc tl so le it he th sl tr bo) (hs : WSC scr i) (nx : WNX scr R (i + 6) B) : AW 1000 scr 302 R 931 [some (mS 9), some (mR 0), some (mR 54), some (mI (i : Int))] [] hp B := by
  have c0 := (WLS_c h).1
  have OK := XI_ok h.1
  have n16 := h.2.1.1.2
  have hX := h.1
  have hM := h.2.1
  have w := fun k => hs.2.2 (i + k)
  have e1 : (i : Int) + 1 = ((i + 1 : Nat) : Int) := rfl
  have e6 : (i : Int) + 6 = ((i + 6 : Nat) : Int) := rfl
  have st9 : stab scr 9 = scr := rfl
  have P1 := fun R => x10_judge 900 hX (w 1) R
  have M1 := hM
  have X1 := hX
  have L1 := h.2.2.2.2.2
  have a1 := MI_ws M1
  have c1 := a1.2.2.2.1
  have hA := a1.2.2.2.2.1
  have hG := a1.2.2.2.2.2
  have P2 := fun R => x_judge_m 900 M1 OK.2.2.2.1 (w 1) R
  have M2 := M1
  have X2 := X1
  have L2 := L1
  simp only [AW_k, AWk_1, x_aload_1, x_aloads_1, x_aload_0, x_aloads_0, x_iload_3, x_push_i, x_push_l, x_iadd, x_iald, x_ialds, x_callv_2, x_aload_2, x_aloads_2, x_icmp_eq, x_ret, x_ret_i, x_ret_z, x_ret_l, x_ret_c, x_iinc_3, x_goto, unl_i, unl_l, unl_q, unl_r, unl_s, unl_n, k_L_law_931, k_L_law_932, k_L_law_933, k_L_law_934, k_L_law_935, k_L_law_936, k_L_law_937, k_L_law_938, k_L_law_939, k_L_law_940, k_L_law_941, k_L_law_942, k_L_law_943, k_L_law_944, k_L_law_945, k_L_law_946, k_L_law_947, k_L_law_1316, k_L_law_1317, oE_some, Int.reduceToNat, Nat.reduceAdd, true_and, and_true, List.length_cons, List.length_nil, Option.toList_some, Option.toList_none, List.cons_append, List.nil_append, Nat.reduceLeDiff, Nat.le_refl, wdS_nil, wdS_i, wdS_l, wdS_r, wdS_n, wdS_s, c0, c1, st9, e1, (WSC_c hs 1 (by decide)).1, (WSC_c hs 1 (by decide)).2, P1, P2, e6, lCmp_self, ↓reduceIte]
  exact nx hp (WSI_of ⟨X2, M2, h.2.2.1, h.2.2.2.1, h.2.2.2.2.1, L2⟩)
set_option maxHeartbeats 16000000 in
theorem lw_38 {scr : List Int} {R : PO} {i : Nat} {B : BU} {hp : HP} {n : Nat} {G : BitVec 64} {z : Int} {c : Nat} {ks : List Int} {es : List Int} {ik : Bool} {kn : Nat} {kG : BitVec 64} {kz : Int} {kc : Nat} {kks : List Int} {kes : List Int} {tc : Nat} {tb : List Int} {sc : Nat} {tl : List Int} {so : List Int} {le : List Int} {it : Nat → List (BitVec 64)} {he : List Int} {th : List Int} {sl : List Int} {tr : Nat} {bo : List Int} (h : WLS hp n G z c ks es ik kn kG kz kc kks kes tc tb sc tl so le it he th sl tr bo) (hs : WSC scr i) (nx : WNX scr R (i + 6) B) : AW 1000 scr 302 R 948 [some (mS 9), some (mR 0), some (mR 54), some (mI (i : Int))] [] hp B := by
  have c0 := (WLS_c h).1
  have OK := XI_ok h.1
  have n16 := h.2.1.1.2
  have hX := h.1
  have hM := h.2.1
  have w := fun k => hs.2.2 (i + k)
  have e1 : (i : Int) + 1 = ((i + 1 : Nat) : Int) := rfl
  have e2 : (i : Int) + 2 = ((i + 2 : Nat) : Int) := rfl
  have e3 : (i : Int) + 3 = ((i + 3 : Nat) : Int) := rfl
  have e6 : (i : Int) + 6 = ((i + 6 : Nat) : Int) := rfl
  have st9 : stab scr 9 = scr := rfl
  obtain ⟨h1, X1, K1, P1⟩ := x10_sheet 900 hX (w 1) (w 2) (w 3)
  have M1 := MI_class hM K1
  have L1 := Nat.le_trans h.2.2.2.2.2 K1.1
  have a1 := MI_ws M1
  have c1 := a1.2.2.2.1
  have hA := a1.2.2.2.2.1
  have hG := a1.2.2.2.2.2
  obtain ⟨h2, M2, F2, P2⟩ := x_sheet_m 900 M1 OK.2.1 (w 1) (w 2) (w 3)
  have X2 := XI_model X1 F2
  have L2 : 83 ≤ h2.length := by rw [F2.1]; exact L1
  simp only [AW_k, AWk_1, x_aload_1, x_aloads_1, x_aload_0, x_aloads_0, x_iload_3, x_push_i, x_push_l, x_iadd, x_iald, x_ialds, x_callv_4, x_aload_2, x_aloads_2, x_icmp_eq, x_ret, x_ret_i, x_ret_z, x_ret_l, x_ret_c, x_iinc_3, x_goto, unl_i, unl_l, unl_q, unl_r, unl_s, unl_n, k_L_law_948, k_L_law_949, k_L_law_950, k_L_law_951, k_L_law_952, k_L_law_953, k_L_law_954, k_L_law_955, k_L_law_956, k_L_law_957, k_L_law_958, k_L_law_959, k_L_law_960, k_L_law_961, k_L_law_962, k_L_law_963, k_L_law_964, k_L_law_965, k_L_law_966, k_L_law_967, k_L_law_968, k_L_law_969, k_L_law_970, k_L_law_971, k_L_law_972, k_L_law_973, k_L_law_974, k_L_law_975, k_L_law_976, k_L_law_977, k_L_law_978, k_L_law_979, k_L_law_980, k_L_law_981, k_L_law_982, k_L_law_983, k_L_law_984, k_L_law_1316, k_L_law_1317, oE_some, Int.reduceToNat, Nat.reduceAdd, true_and, and_true, List.length_cons, List.length_nil, Option.toList_some, Option.toList_none, List.cons_append, List.nil_append, Nat.reduceLeDiff, Nat.le_refl, wdS_nil, wdS_i, wdS_l, wdS_r, wdS_n, wdS_s, c0, c1, st9, e1, (WSC_c hs 1 (by decide)).1, (WSC_c hs 1 (by decide)).2, e2, (WSC_c hs 2 (by decide)).1, (WSC_c hs 2 (by decide)).2, e3, (WSC_c hs 3 (by decide)).1, (WSC_c hs 3 (by decide)).2, P1, P2, e6, lCmp_self, ↓reduceIte]
  exact nx h2 (WSI_of ⟨X2, M2, h.2.2.1, h.2.2.2.1, itOK_sheet OK.2.1.1 h.2.2.2.2.1, L2⟩)
set_option maxHeartbeats 16000000 in
theorem lw_40 {scr : List Int} {R : PO} {i : Nat} {B : BU} {hp : HP} {n : Nat} {G : BitVec 64} {z : Int} {c : Nat} {ks : List Int} {es : List Int} {ik : Bool} {kn : Nat} {kG : BitVec 64} {kz : Int} {kc : Nat} {kks : List Int} {kes : List Int} {tc : Nat} {tb : List Int} {sc : Nat} {tl : List Int} {so : List Int} {le : List Int} {it : Nat → List (BitVec 64)} {he : List Int} {th : List Int} {sl : List Int} {tr : Nat} {bo : List Int} (h : WLS hp n G z c ks es ik kn kG kz kc kks kes tc tb sc tl so le it he th sl tr bo) (hs : WSC scr i) (nx : WNX scr R (i + 6) B) : AW 1000 scr 302 R 1046 [some (mS 9), some (mR 0), some (mR 54), some (mI (i : Int))] [] hp B := by
  have c0 := (WLS_c h).1
  have OK := XI_ok h.1
  have n16 := h.2.1.1.2
  have hX := h.1
  have hM := h.2.1
  have w := fun k => hs.2.2 (i + k)
  have e1 : (i : Int) + 1 = ((i + 1 : Nat) : Int) := rfl
  have e2 : (i : Int) + 2 = ((i + 2 : Nat) : Int) := rfl
  have e3 : (i : Int) + 3 = ((i + 3 : Nat) : Int) := rfl
  have e6 : (i : Int) + 6 = ((i + 6 : Nat) : Int) := rfl
  have st9 : stab scr 9 = scr := rfl
  have P1 := fun R => x10_item 900 hX (w 1) (w 2) (w 3) R
  have M1 := hM
  have X1 := hX
  have L1 := h.2.2.2.2.2
  have a1 := MI_ws M1
  have c1 := a1.2.2.2.1
  have hA := a1.2.2.2.2.1
  have hG := a1.2.2.2.2.2
  have P2 := fun R => x_item_m 900 M1 OK.2.1 (w 1) (w 2) (w 3) R
  have M2 := M1
  have X2 := X1
  have L2 := L1
  simp only [AW_k, AWk_1, x_aload_1, x_aloads_1, x_aload_0, x_aloads_0, x_iload_3, x_push_i, x_push_l, x_iadd, x_iald, x_ialds, x_callv_4, x_aload_2, x_aloads_2, x_icmp_eq, x_ret, x_ret_i, x_ret_z, x_ret_l, x_ret_c, x_iinc_3, x_goto, unl_i, unl_l, unl_q, unl_r, unl_s, unl_n, k_L_law_1046, k_L_law_1047, k_L_law_1048, k_L_law_1049, k_L_law_1050, k_L_law_1051, k_L_law_1052, k_L_law_1053, k_L_law_1054, k_L_law_1055, k_L_law_1056, k_L_law_1057, k_L_law_1058, k_L_law_1059, k_L_law_1060, k_L_law_1061, k_L_law_1062, k_L_law_1063, k_L_law_1064, k_L_law_1065, k_L_law_1066, k_L_law_1067, k_L_law_1068, k_L_law_1069, k_L_law_1070, k_L_law_1071, k_L_law_1072, k_L_law_1073, k_L_law_1074, k_L_law_1075, k_L_law_1076, k_L_law_1077, k_L_law_1078, k_L_law_1079, k_L_law_1080, k_L_law_1081, k_L_law_1082, k_L_law_1316, k_L_law_1317, oE_some, Int.reduceToNat, Nat.reduceAdd, true_and, and_true, List.length_cons, List.length_nil, Option.toList_some, Option.toList_none, List.cons_append, List.nil_append, Nat.reduceLeDiff, Nat.le_refl, wdS_nil, wdS_i, wdS_l, wdS_r, wdS_n, wdS_s, c0, c1, st9, e1, (WSC_c hs 1 (by decide)).1, (WSC_c hs 1 (by decide)).2, e2, (WSC_c hs 2 (by decide)).1, (WSC_c hs 2 (by decide)).2, e3, (WSC_c hs 3 (by decide)).1, (WSC_c hs 3 (by decide)).2, P1, P2, e6, lCmp_self, ↓reduceIte]
  exact nx hp (WSI_of ⟨X2, M2, h.2.2.1, h.2.2.2.1, h.2.2.2.2.1, L2⟩)
set_option maxHeartbeats 16000000 in
theorem lw_41 {scr : List Int} {R : PO} {i : Nat} {B : BU} {hp : HP} {n : Nat} {G : BitVec 64} {z : Int} {c : Nat} {ks : List Int} {es : List Int} {ik : Bool} {kn : Nat} {kG : BitVec 64} {kz : Int} {kc : Nat} {kks : List Int} {kes : List Int} {tc : Nat} {tb : List Int} {sc : Nat} {tl : List Int} {so : List Int} {le : List Int} {it : Nat → List (BitVec 64)} {he : List Int} {th : List Int} {sl : List Int} {tr : Nat} {bo : List Int} (h : WLS hp n G z c ks es ik kn kG kz kc kks kes tc tb sc tl so le it he th sl tr bo) (hs : WSC scr i) (nx : WNX scr R (i + 6) B) : AW 1000 scr 302 R 1083 [some (mS 9), some (mR 0), some (mR 54), some (mI (i : Int))] [] hp B := by
  have c0 := (WLS_c h).1
  have OK := XI_ok h.1
  have n16 := h.2.1.1.2
  have hX := h.1
  have hM := h.2.1
  have w := fun k => hs.2.2 (i + k)
  have e1 : (i : Int) + 1 = ((i + 1 : Nat) : Int) := rfl
  have e2 : (i : Int) + 2 = ((i + 2 : Nat) : Int) := rfl
  have e3 : (i : Int) + 3 = ((i + 3 : Nat) : Int) := rfl
  have e4 : (i : Int) + 4 = ((i + 4 : Nat) : Int) := rfl
  have e5 : (i : Int) + 5 = ((i + 5 : Nat) : Int) := rfl
  have e6 : (i : Int) + 6 = ((i + 6 : Nat) : Int) := rfl
  have st9 : stab scr 9 = scr := rfl
  obtain ⟨h1, X1, K1, P1⟩ := x10_move 900 hX (w 1) (w 2) (w 3) (w 4) (w 5)
  have M1 := MI_class hM K1
  have L1 := Nat.le_trans h.2.2.2.2.2 K1.1
  have a1 := MI_ws M1
  have c1 := a1.2.2.2.1
  have hA := a1.2.2.2.2.1
  have hG := a1.2.2.2.2.2
  obtain ⟨h2, M2, F2, P2⟩ := x_move_m 900 M1 OK.2.1 (w 1) (w 2) (w 3) (w 4) (w 5)
  have X2 := XI_model X1 F2
  have L2 : 83 ≤ h2.length := by rw [F2.1]; exact L1
  simp only [AW_k, AWk_1, x_aload_1, x_aloads_1, x_aload_0, x_aloads_0, x_iload_3, x_push_i, x_push_l, x_iadd, x_iald, x_ialds, x_callv_6, x_aload_2, x_aloads_2, x_icmp_eq, x_ret, x_ret_i, x_ret_z, x_ret_l, x_ret_c, x_iinc_3, x_goto, unl_i, unl_l, unl_q, unl_r, unl_s, unl_n, k_L_law_1083, k_L_law_1084, k_L_law_1085, k_L_law_1086, k_L_law_1087, k_L_law_1088, k_L_law_1089, k_L_law_1090, k_L_law_1091, k_L_law_1092, k_L_law_1093, k_L_law_1094, k_L_law_1095, k_L_law_1096, k_L_law_1097, k_L_law_1098, k_L_law_1099, k_L_law_1100, k_L_law_1101, k_L_law_1102, k_L_law_1103, k_L_law_1104, k_L_law_1105, k_L_law_1106, k_L_law_1107, k_L_law_1108, k_L_law_1109, k_L_law_1110, k_L_law_1111, k_L_law_1112, k_L_law_1113, k_L_law_1114, k_L_law_1115, k_L_law_1116, k_L_law_1117, k_L_law_1118, k_L_law_1119, k_L_law_1120, k_L_law_1121, k_L_law_1122, k_L_law_1123, k_L_law_1124, k_L_law_1125, k_L_law_1126, k_L_law_1127, k_L_law_1128, k_L_law_1129, k_L_law_1130, k_L_law_1131, k_L_law_1132, k_L_law_1133, k_L_law_1134, k_L_law_1135, k_L_law_1136, k_L_law_1137, k_L_law_1138, k_L_law_1139, k_L_law_1316, k_L_law_1317, oE_some, Int.reduceToNat, Nat.reduceAdd, true_and, and_true, List.length_cons, List.length_nil, Option.toList_some, Option.toList_none, List.cons_append, List.nil_append, Nat.reduceLeDiff, Nat.le_refl, wdS_nil, wdS_i, wdS_l, wdS_r, wdS_n, wdS_s, c0, c1, st9, e1, (WSC_c hs 1 (by decide)).1, (WSC_c hs 1 (by decide)).2, e2, (WSC_c hs 2 (by decide)).1, (WSC_c hs 2 (by decide)).2, e3, (WSC_c hs 3 (by decide)).1, (WSC_c hs 3 (by decide)).2, e4, (WSC_c hs 4 (by decide)).1, (WSC_c hs 4 (by decide)).2, e5, (WSC_c hs 5 (by decide)).1, (WSC_c hs 5 (by decide)).2, P1, P2, e6, lCmp_self, ↓reduceIte]
  exact nx h2 (WSI_of ⟨X2, M2, h.2.2.1, h.2.2.2.1, itOK_move OK.2.1 h.2.2.2.2.1, L2⟩)
set_option maxHeartbeats 16000000 in
theorem lw_42 {scr : List Int} {R : PO} {i : Nat} {B : BU} {hp : HP} {n : Nat} {G : BitVec 64} {z : Int} {c : Nat} {ks : List Int} {es : List Int} {ik : Bool} {kn : Nat} {kG : BitVec 64} {kz : Int} {kc : Nat} {kks : List Int} {kes : List Int} {tc : Nat} {tb : List Int} {sc : Nat} {tl : List Int} {so : List Int} {le : List Int} {it : Nat → List (BitVec 64)} {he : List Int} {th : List Int} {sl : List Int} {tr : Nat} {bo : List Int} (h : WLS hp n G z c ks es ik kn kG kz kc kks kes tc tb sc tl so le it he th sl tr bo) (hs : WSC scr i) (nx : WNX scr R (i + 6) B) : AW 1000 scr 302 R 1140 [some (mS 9), some (mR 0), some (mR 54), some (mI (i : Int))] [] hp B := by
  have c0 := (WLS_c h).1
  have OK := XI_ok h.1
  have n16 := h.2.1.1.2
  have hX := h.1
  have hM := h.2.1
  have w := fun k => hs.2.2 (i + k)
  have e1 : (i : Int) + 1 = ((i + 1 : Nat) : Int) := rfl
  have e2 : (i : Int) + 2 = ((i + 2 : Nat) : Int) := rfl
  have e6 : (i : Int) + 6 = ((i + 6 : Nat) : Int) := rfl
  have st9 : stab scr 9 = scr := rfl
  have P1 := fun R => x10_rowFrom 900 hX (w 1) (w 2) R
  have M1 := hM
  have X1 := hX
  have L1 := h.2.2.2.2.2
  have a1 := MI_ws M1
  have c1 := a1.2.2.2.1
  have hA := a1.2.2.2.2.1
  have hG := a1.2.2.2.2.2
  have P2 := fun R => x_rowFrom_m 900 M1 OK.2.1 (w 1) (w 2) R
  have M2 := M1
  have X2 := X1
  have L2 := L1
  simp only [AW_k, AWk_1, x_aload_1, x_aloads_1, x_aload_0, x_aloads_0, x_iload_3, x_push_i, x_push_l, x_iadd, x_iald, x_ialds, x_callv_3, x_aload_2, x_aloads_2, x_icmp_eq, x_ret, x_ret_i, x_ret_z, x_ret_l, x_ret_c, x_iinc_3, x_goto, unl_i, unl_l, unl_q, unl_r, unl_s, unl_n, k_L_law_1140, k_L_law_1141, k_L_law_1142, k_L_law_1143, k_L_law_1144, k_L_law_1145, k_L_law_1146, k_L_law_1147, k_L_law_1148, k_L_law_1149, k_L_law_1150, k_L_law_1151, k_L_law_1152, k_L_law_1153, k_L_law_1154, k_L_law_1155, k_L_law_1156, k_L_law_1157, k_L_law_1158, k_L_law_1159, k_L_law_1160, k_L_law_1161, k_L_law_1162, k_L_law_1163, k_L_law_1164, k_L_law_1165, k_L_law_1166, k_L_law_1316, k_L_law_1317, oE_some, Int.reduceToNat, Nat.reduceAdd, true_and, and_true, List.length_cons, List.length_nil, Option.toList_some, Option.toList_none, List.cons_append, List.nil_append, Nat.reduceLeDiff, Nat.le_refl, wdS_nil, wdS_i, wdS_l, wdS_r, wdS_n, wdS_s, c0, c1, st9, e1, (WSC_c hs 1 (by decide)).1, (WSC_c hs 1 (by decide)).2, e2, (WSC_c hs 2 (by decide)).1, (WSC_c hs 2 (by decide)).2, P1, P2, e6, lCmp_self, ↓reduceIte]
  exact nx hp (WSI_of ⟨X2, M2, h.2.2.1, h.2.2.2.1, h.2.2.2.2.1, L2⟩)
set_option maxHeartbeats 16000000 in
theorem lw_43 {scr : List Int} {R : PO} {i : Nat} {B : BU} {hp : HP} {n : Nat} {G : BitVec 64} {z : Int} {c : Nat} {ks : List Int} {es : List Int} {ik : Bool} {kn : Nat} {kG : BitVec 64} {kz : Int} {kc : Nat} {kks : List Int} {kes : List Int} {tc : Nat} {tb : List Int} {sc : Nat} {tl : List Int} {so : List Int} {le : List Int} {it : Nat → List (BitVec 64)} {he : List Int} {th : List Int} {sl : List Int} {tr : Nat} {bo : List Int} (h : WLS hp n G z c ks es ik kn kG kz kc kks kes tc tb sc tl so le it he th sl tr bo) (hs : WSC scr i) (nx : WNX scr R (i + 6) B) : AW 1000 scr 302 R 1167 [some (mS 9), some (mR 0), some (mR 54), some (mI (i : Int))] [] hp B := by
  have c0 := (WLS_c h).1
  have OK := XI_ok h.1
  have n16 := h.2.1.1.2
  have hX := h.1
  have hM := h.2.1
  have w := fun k => hs.2.2 (i + k)
  have e1 : (i : Int) + 1 = ((i + 1 : Nat) : Int) := rfl
  have e2 : (i : Int) + 2 = ((i + 2 : Nat) : Int) := rfl
  have e3 : (i : Int) + 3 = ((i + 3 : Nat) : Int) := rfl
  have e6 : (i : Int) + 6 = ((i + 6 : Nat) : Int) := rfl
  have st9 : stab scr 9 = scr := rfl
  obtain ⟨h1, X1, K1, P1⟩ := x10_shelf 900 hX (w 1) (w 2) (w 3)
  have M1 := MI_class hM K1
  have L1 := Nat.le_trans h.2.2.2.2.2 K1.1
  have a1 := MI_ws M1
  have c1 := a1.2.2.2.1
  have hA := a1.2.2.2.2.1
  have hG := a1.2.2.2.2.2
  obtain ⟨h2, M2, F2, P2⟩ := x_shelf_m 900 M1 OK.2.1 OK.2.2.1 OK.1.2.2.1 (w 1) (w 2) (w 3)
  have X2 := XI_model X1 F2
  have L2 : 83 ≤ h2.length := by rw [F2.1]; exact L1
  simp only [AW_k, AWk_1, x_aload_1, x_aloads_1, x_aload_0, x_aloads_0, x_iload_3, x_push_i, x_push_l, x_iadd, x_iald, x_ialds, x_callv_4, x_aload_2, x_aloads_2, x_icmp_eq, x_ret, x_ret_i, x_ret_z, x_ret_l, x_ret_c, x_iinc_3, x_goto, unl_i, unl_l, unl_q, unl_r, unl_s, unl_n, k_L_law_1167, k_L_law_1168, k_L_law_1169, k_L_law_1170, k_L_law_1171, k_L_law_1172, k_L_law_1173, k_L_law_1174, k_L_law_1175, k_L_law_1176, k_L_law_1177, k_L_law_1178, k_L_law_1179, k_L_law_1180, k_L_law_1181, k_L_law_1182, k_L_law_1183, k_L_law_1184, k_L_law_1185, k_L_law_1186, k_L_law_1187, k_L_law_1188, k_L_law_1189, k_L_law_1190, k_L_law_1191, k_L_law_1192, k_L_law_1193, k_L_law_1194, k_L_law_1195, k_L_law_1196, k_L_law_1197, k_L_law_1198, k_L_law_1199, k_L_law_1200, k_L_law_1201, k_L_law_1202, k_L_law_1203, k_L_law_1316, k_L_law_1317, oE_some, Int.reduceToNat, Nat.reduceAdd, true_and, and_true, List.length_cons, List.length_nil, Option.toList_some, Option.toList_none, List.cons_append, List.nil_append, Nat.reduceLeDiff, Nat.le_refl, wdS_nil, wdS_i, wdS_l, wdS_r, wdS_n, wdS_s, c0, c1, st9, e1, (WSC_c hs 1 (by decide)).1, (WSC_c hs 1 (by decide)).2, e2, (WSC_c hs 2 (by decide)).1, (WSC_c hs 2 (by decide)).2, e3, (WSC_c hs 3 (by decide)).1, (WSC_c hs 3 (by decide)).2, P1, P2, e6, lCmp_self, ↓reduceIte]
  exact nx h2 (WSI_of ⟨X2, M2, h.2.2.1, h.2.2.2.1, h.2.2.2.2.1, L2⟩)
set_option maxHeartbeats 16000000 in
theorem lw_44 {scr : List Int} {R : PO} {i : Nat} {B : BU} {hp : HP} {n : Nat} {G : BitVec 64} {z : Int} {c : Nat} {ks : List Int} {es : List Int} {ik : Bool} {kn : Nat} {kG : BitVec 64} {kz : Int} {kc : Nat} {kks : List Int} {kes : List Int} {tc : Nat} {tb : List Int} {sc : Nat} {tl : List Int} {so : List Int} {le : List Int} {it : Nat → List (BitVec 64)} {he : List Int} {th : List Int} {sl : List Int} {tr : Nat} {bo : List Int} (h : WLS hp n G z c ks es ik kn kG kz kc kks kes tc tb sc tl so le it he th sl tr bo) (hs : WSC scr i) (nx : WNX scr R (i + 6) B) : AW 1000 scr 302 R 1204 [some (mS 9), some (mR 0), some (mR 54), some (mI (i : Int))] [] hp B := by
  have c0 := (WLS_c h).1
  have OK := XI_ok h.1
  have n16 := h.2.1.1.2
  have hX := h.1
  have hM := h.2.1
  have w := fun k => hs.2.2 (i + k)
  have e1 : (i : Int) + 1 = ((i + 1 : Nat) : Int) := rfl
  have e2 : (i : Int) + 2 = ((i + 2 : Nat) : Int) := rfl
  have e6 : (i : Int) + 6 = ((i + 6 : Nat) : Int) := rfl
  have st9 : stab scr 9 = scr := rfl
  have P1 := fun R => x10_taken 900 hX (w 1) (w 2) R
  have M1 := hM
  have X1 := hX
  have L1 := h.2.2.2.2.2
  have a1 := MI_ws M1
  have c1 := a1.2.2.2.1
  have hA := a1.2.2.2.2.1
  have hG := a1.2.2.2.2.2
  have P2 := fun R => x_taken_m 900 M1 OK.2.2.1 OK.1 (w 1) (w 2) R
  have M2 := M1
  have X2 := X1
  have L2 := L1
  simp only [AW_k, AWk_1, x_aload_1, x_aloads_1, x_aload_0, x_aloads_0, x_iload_3, x_push_i, x_push_l, x_iadd, x_iald, x_ialds, x_callv_3, x_aload_2, x_aloads_2, x_icmp_eq, x_ret, x_ret_i, x_ret_z, x_ret_l, x_ret_c, x_iinc_3, x_goto, unl_i, unl_l, unl_q, unl_r, unl_s, unl_n, k_L_law_1204, k_L_law_1205, k_L_law_1206, k_L_law_1207, k_L_law_1208, k_L_law_1209, k_L_law_1210, k_L_law_1211, k_L_law_1212, k_L_law_1213, k_L_law_1214, k_L_law_1215, k_L_law_1216, k_L_law_1217, k_L_law_1218, k_L_law_1219, k_L_law_1220, k_L_law_1221, k_L_law_1222, k_L_law_1223, k_L_law_1224, k_L_law_1225, k_L_law_1226, k_L_law_1227, k_L_law_1228, k_L_law_1229, k_L_law_1230, k_L_law_1316, k_L_law_1317, oE_some, Int.reduceToNat, Nat.reduceAdd, true_and, and_true, List.length_cons, List.length_nil, Option.toList_some, Option.toList_none, List.cons_append, List.nil_append, Nat.reduceLeDiff, Nat.le_refl, wdS_nil, wdS_i, wdS_l, wdS_r, wdS_n, wdS_s, c0, c1, st9, e1, (WSC_c hs 1 (by decide)).1, (WSC_c hs 1 (by decide)).2, e2, (WSC_c hs 2 (by decide)).1, (WSC_c hs 2 (by decide)).2, P1, P2, e6, lCmp_self, ↓reduceIte]
  exact nx hp (WSI_of ⟨X2, M2, h.2.2.1, h.2.2.2.1, h.2.2.2.2.1, L2⟩)
set_option maxHeartbeats 16000000 in
theorem lw_46 {scr : List Int} {R : PO} {i : Nat} {B : BU} {hp : HP} {n : Nat} {G : BitVec 64} {z : Int} {c : Nat} {ks : List Int} {es : List Int} {ik : Bool} {kn : Nat} {kG : BitVec 64} {kz : Int} {kc : Nat} {kks : List Int} {kes : List Int} {tc : Nat} {tb : List Int} {sc : Nat} {tl : List Int} {so : List Int} {le : List Int} {it : Nat → List (BitVec 64)} {he : List Int} {th : List Int} {sl : List Int} {tr : Nat} {bo : List Int} (h : WLS hp n G z c ks es ik kn kG kz kc kks kes tc tb sc tl so le it he th sl tr bo) (hs : WSC scr i) (nx : WNX scr R (i + 6) B) : AW 1000 scr 302 R 1268 [some (mS 9), some (mR 0), some (mR 54), some (mI (i : Int))] [] hp B := by
  have c0 := (WLS_c h).1
  have OK := XI_ok h.1
  have n16 := h.2.1.1.2
  have hX := h.1
  have hM := h.2.1
  have w := fun k => hs.2.2 (i + k)
  have e1 : (i : Int) + 1 = ((i + 1 : Nat) : Int) := rfl
  have e6 : (i : Int) + 6 = ((i + 6 : Nat) : Int) := rfl
  have st9 : stab scr 9 = scr := rfl
  have P1 := fun R => x10_trace 900 hX (w 1) R
  have M1 := hM
  have X1 := hX
  have L1 := h.2.2.2.2.2
  have a1 := MI_ws M1
  have c1 := a1.2.2.2.1
  have hA := a1.2.2.2.2.1
  have hG := a1.2.2.2.2.2
  have P2 := fun R => x_trace_m 900 M1 OK.2.2.2.2.1 (w 1) R
  have M2 := M1
  have X2 := X1
  have L2 := L1
  simp only [AW_k, AWk_1, x_aload_1, x_aloads_1, x_aload_0, x_aloads_0, x_iload_3, x_push_i, x_push_l, x_iadd, x_iald, x_ialds, x_callv_2, x_aload_2, x_aloads_2, x_icmp_eq, x_ret, x_ret_i, x_ret_z, x_ret_l, x_ret_c, x_iinc_3, x_goto, unl_i, unl_l, unl_q, unl_r, unl_s, unl_n, k_L_law_1268, k_L_law_1269, k_L_law_1270, k_L_law_1271, k_L_law_1272, k_L_law_1273, k_L_law_1274, k_L_law_1275, k_L_law_1276, k_L_law_1277, k_L_law_1278, k_L_law_1279, k_L_law_1280, k_L_law_1281, k_L_law_1282, k_L_law_1283, k_L_law_1284, k_L_law_1316, k_L_law_1317, oE_some, Int.reduceToNat, Nat.reduceAdd, true_and, and_true, List.length_cons, List.length_nil, Option.toList_some, Option.toList_none, List.cons_append, List.nil_append, Nat.reduceLeDiff, Nat.le_refl, wdS_nil, wdS_i, wdS_l, wdS_r, wdS_n, wdS_s, c0, c1, st9, e1, (WSC_c hs 1 (by decide)).1, (WSC_c hs 1 (by decide)).2, P1, P2, e6, lCmp_self, ↓reduceIte]
  exact nx hp (WSI_of ⟨X2, M2, h.2.2.1, h.2.2.2.1, h.2.2.2.2.1, L2⟩)
set_option maxHeartbeats 16000000 in
theorem lw_47 {scr : List Int} {R : PO} {i : Nat} {B : BU} {hp : HP} {n : Nat} {G : BitVec 64} {z : Int} {c : Nat} {ks : List Int} {es : List Int} {ik : Bool} {kn : Nat} {kG : BitVec 64} {kz : Int} {kc : Nat} {kks : List Int} {kes : List Int} {tc : Nat} {tb : List Int} {sc : Nat} {tl : List Int} {so : List Int} {le : List Int} {it : Nat → List (BitVec 64)} {he : List Int} {th : List Int} {sl : List Int} {tr : Nat} {bo : List Int} (h : WLS hp n G z c ks es ik kn kG kz kc kks kes tc tb sc tl so le it he th sl tr bo) (hs : WSC scr i) (nx : WNX scr R (i + 6) B) : AW 1000 scr 302 R 1285 [some (mS 9), some (mR 0), some (mR 54), some (mI (i : Int))] [] hp B := by
  have c0 := (WLS_c h).1
  have OK := XI_ok h.1
  have n16 := h.2.1.1.2
  have hX := h.1
  have hM := h.2.1
  have w := fun k => hs.2.2 (i + k)
  have e1 : (i : Int) + 1 = ((i + 1 : Nat) : Int) := rfl
  have e6 : (i : Int) + 6 = ((i + 6 : Nat) : Int) := rfl
  have st9 : stab scr 9 = scr := rfl
  have P1 := fun R => x10_many 900 hX (w 1) R
  have M1 := hM
  have X1 := hX
  have L1 := h.2.2.2.2.2
  have a1 := MI_ws M1
  have c1 := a1.2.2.2.1
  have hA := a1.2.2.2.2.1
  have hG := a1.2.2.2.2.2
  have P2 := fun R => x_many_m 900 M1 (w 1) R
  have M2 := M1
  have X2 := X1
  have L2 := L1
  simp only [AW_k, AWk_1, x_aload_1, x_aloads_1, x_aload_0, x_aloads_0, x_iload_3, x_push_i, x_push_l, x_iadd, x_iald, x_ialds, x_callv_2, x_aload_2, x_aloads_2, x_icmp_eq, x_ret, x_ret_i, x_ret_z, x_ret_l, x_ret_c, x_iinc_3, x_goto, unl_i, unl_l, unl_q, unl_r, unl_s, unl_n, k_L_law_1285, k_L_law_1286, k_L_law_1287, k_L_law_1288, k_L_law_1289, k_L_law_1290, k_L_law_1291, k_L_law_1292, k_L_law_1293, k_L_law_1294, k_L_law_1295, k_L_law_1296, k_L_law_1297, k_L_law_1298, k_L_law_1299, k_L_law_1300, k_L_law_1301, k_L_law_1316, k_L_law_1317, oE_some, Int.reduceToNat, Nat.reduceAdd, true_and, and_true, List.length_cons, List.length_nil, Option.toList_some, Option.toList_none, List.cons_append, List.nil_append, Nat.reduceLeDiff, Nat.le_refl, wdS_nil, wdS_i, wdS_l, wdS_r, wdS_n, wdS_s, c0, c1, st9, e1, (WSC_c hs 1 (by decide)).1, (WSC_c hs 1 (by decide)).2, P1, P2, e6, lCmp_self, ↓reduceIte]
  exact nx hp (WSI_of ⟨X2, M2, h.2.2.1, h.2.2.2.1, h.2.2.2.2.1, L2⟩)
set_option maxHeartbeats 16000000 in
theorem lw_48 {scr : List Int} {R : PO} {i : Nat} {B : BU} {hp : HP} {n : Nat} {G : BitVec 64} {z : Int} {c : Nat} {ks : List Int} {es : List Int} {ik : Bool} {kn : Nat} {kG : BitVec 64} {kz : Int} {kc : Nat} {kks : List Int} {kes : List Int} {tc : Nat} {tb : List Int} {sc : Nat} {tl : List Int} {so : List Int} {le : List Int} {it : Nat → List (BitVec 64)} {he : List Int} {th : List Int} {sl : List Int} {tr : Nat} {bo : List Int} (h : WLS hp n G z c ks es ik kn kG kz kc kks kes tc tb sc tl so le it he th sl tr bo) (hs : WSC scr i) (nx : WNX scr R (i + 6) B) : AW 1000 scr 302 R 1302 [some (mS 9), some (mR 0), some (mR 54), some (mI (i : Int))] [] hp B := by
  have c0 := (WLS_c h).1
  have OK := XI_ok h.1
  have n16 := h.2.1.1.2
  have hX := h.1
  have hM := h.2.1
  have w := fun k => hs.2.2 (i + k)
  have e6 : (i : Int) + 6 = ((i + 6 : Nat) : Int) := rfl
  have st9 : stab scr 9 = scr := rfl
  obtain ⟨h1, X1, K1, P1⟩ := x10_keep 900 hX
  have M1 := MI_class hM K1
  have L1 := Nat.le_trans h.2.2.2.2.2 K1.1
  have a1 := MI_ws M1
  have c1 := a1.2.2.2.1
  have hA := a1.2.2.2.2.1
  have hG := a1.2.2.2.2.2
  obtain ⟨h2, M2, F2, P2⟩ := x_keep_m 900 M1
  have X2 := XI_model X1 F2
  have L2 : 83 ≤ h2.length := by rw [F2.1]; exact L1
  simp only [AW_k, AWk_1, x_aload_1, x_aloads_1, x_callv_1, x_aload_2, x_aloads_2, x_icmp_eq, x_push_i, x_push_l, x_ret, x_ret_i, x_ret_z, x_ret_l, x_ret_c, x_iinc_3, x_goto, unl_i, unl_l, unl_q, unl_r, unl_s, unl_n, k_L_law_1302, k_L_law_1303, k_L_law_1304, k_L_law_1305, k_L_law_1306, k_L_law_1307, k_L_law_1308, k_L_law_1316, k_L_law_1317, oE_some, Int.reduceToNat, Nat.reduceAdd, true_and, and_true, List.length_cons, List.length_nil, Option.toList_some, Option.toList_none, List.cons_append, List.nil_append, Nat.reduceLeDiff, Nat.le_refl, wdS_nil, wdS_i, wdS_l, wdS_r, wdS_n, wdS_s, c0, c1, st9, P1, P2, e6, lCmp_self, ↓reduceIte]
  exact nx h2 (WSI_of ⟨X2, M2, h.2.2.1, (fun _ => h.2.2.1), h.2.2.2.2.1, L2⟩)
