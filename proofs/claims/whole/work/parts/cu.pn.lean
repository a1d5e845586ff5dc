/-! ===== the law: its other cases ===== -/
set_option maxHeartbeats 16000000 in
theorem lw_11 {scr : List Int} {R : PO} {i : Nat} {B : BU} {hp : HP} {n : Nat} {G : BitVec 64} {z : Int} {c : Nat} {ks : List Int} {es : List Int} {ik : Bool} {kn : Nat} {kG : BitVec 64} {kz : Int} {kc : Nat} {kks : List Int} {kes : List Int} {tc : Nat} {tb : List Int} {sc : Nat} {tl : List Int} {so : List Int} {le : List Int} {it : Nat → List (BitVec 64)} {he : List Int} {th : List Int} {sl : List Int} {tr : Nat} {bo : List Int} (h : WLS hp n G z c ks es ik kn kG kz kc kks kes tc tb sc tl so le it he th sl tr bo) (hs : WSC scr i) (nx : WNX scr R (i + 6) B) : AW 1000 scr 302 R 300 [some (mS 9), some (mR 0), some (mR 54), some (mI (i : Int))] [] hp B := by
  have c0 := (WLS_c h).1
  have OK := XI_ok h.1
  have n16 := h.2.1.1.2
  have hX := h.1
  have hM := h.2.1
  have w := fun k => hs.2.2 (i + k)
  have e1 : (i : Int) + 1 = ((i + 1 : Nat) : Int) := rfl
  have e2 : (i : Int) + 2 = ((i + 2 : Nat) : Int) := rfl
  have e6 : (i : Int) + 6 = ((i + 6 : Nat) : Int) := rfl
  have st9 : stab scr 9 = scr := rfl
  have a1 := MI_ws hM
  have c1 := a1.2.2.2.1
  have P1 := fun (s : BitVec 64) (R : PO) => x10_rowOf 900 (s := s) hX R
  have P2 := fun (s : BitVec 64) (R : PO) => m_rowOf 900 (s := s) a1.2.2.2.2.1 R
  simp only [AW_k, AWk_1, x_aload_1, x_aloads_1, x_aload_0, x_aloads_0, x_iload_3, x_push_i, x_push_l, x_iadd, x_iald, x_ialds, x_i2l, x_lshl, x_land, x_lor, x_callv_2, x_aload_2, x_aloads_2, x_icmp_eq, x_ret, x_ret_i, x_ret_z, x_ret_l, x_ret_c, x_iinc_3, x_goto, unl_i, unl_l, unl_q, unl_r, unl_s, unl_n, k_L_law_300, k_L_law_301, k_L_law_302, k_L_law_303, k_L_law_304, k_L_law_305, k_L_law_306, k_L_law_307, k_L_law_308, k_L_law_309, k_L_law_310, k_L_law_311, k_L_law_312, k_L_law_313, k_L_law_314, k_L_law_315, k_L_law_316, k_L_law_317, k_L_law_318, k_L_law_319, k_L_law_320, k_L_law_321, k_L_law_322, k_L_law_323, k_L_law_324, k_L_law_325, k_L_law_326, k_L_law_327, k_L_law_328, k_L_law_329, k_L_law_330, k_L_law_331, k_L_law_332, k_L_law_333, k_L_law_334, k_L_law_335, k_L_law_336, k_L_law_337, k_L_law_338, k_L_law_339, k_L_law_340, k_L_law_1316, k_L_law_1317, oE_some, Int.reduceToNat, Nat.reduceAdd, true_and, and_true, List.length_cons, List.length_nil, Option.toList_some, Option.toList_none, List.cons_append, List.nil_append, Nat.reduceLeDiff, Nat.le_refl, wdS_nil, wdS_i, wdS_l, wdS_r, wdS_n, wdS_s, c0, c1, st9, e1, (WSC_c hs 1 (by decide)).1, (WSC_c hs 1 (by decide)).2, e2, (WSC_c hs 2 (by decide)).1, (WSC_c hs 2 (by decide)).2, P1, P2, e6, ↓reduceIte]
  exact nx hp (WSI_of h)
set_option maxHeartbeats 16000000 in
theorem lw_45 {scr : List Int} {R : PO} {i : Nat} {B : BU} {hp : HP} {n : Nat} {G : BitVec 64} {z : Int} {c : Nat} {ks : List Int} {es : List Int} {ik : Bool} {kn : Nat} {kG : BitVec 64} {kz : Int} {kc : Nat} {kks : List Int} {kes : List Int} {tc : Nat} {tb : List Int} {sc : Nat} {tl : List Int} {so : List Int} {le : List Int} {it : Nat → List (BitVec 64)} {he : List Int} {th : List Int} {sl : List Int} {tr : Nat} {bo : List Int} (h : WLS hp n G z c ks es ik kn kG kz kc kks kes tc tb sc tl so le it he th sl tr bo) (hs : WSC scr i) (nx : WNX scr R (i + 6) B) : AW 1000 scr 302 R 1231 [some (mS 9), some (mR 0), some (mR 54), some (mI (i : Int))] [] hp B := by
  have c0 := (WLS_c h).1
  have OK := XI_ok h.1
  have n16 := h.2.1.1.2
  have hX := h.1
  have hM := h.2.1
  have w := fun k => hs.2.2 (i + k)
  have e1 : (i : Int) + 1 = ((i + 1 : Nat) : Int) := rfl
  have e2 : (i : Int) + 2 = ((i + 2 : Nat) : Int) := rfl
  have e3 : (i : Int) + 3 = ((i + 3 : Nat) : Int) := rfl
  have e6 : (i : Int) + 6 = ((i + 6 : Nat) : Int) := rfl
  have st9 : stab scr 9 = scr := rfl
  obtain ⟨h1, X1, K1, P1⟩ := x10_act 900 (v := scr.getD (i + 3) 0) hX (w 1) (w 2)
  have M1 := MI_class hM K1
  have L1 := Nat.le_trans h.2.2.2.2.2 K1.1
  have a1 := MI_ws M1
  have c1 := a1.2.2.2.1
  obtain ⟨h2, v2, M2, F2, wv, P2⟩ := x_act_m 900 (v := scr.getD (i + 3) 0) M1 OK.2.2.1 OK.1 (w 1) (w 2)
  have X2 := XI_model X1 F2
  have L2 : 83 ≤ h2.length := by rw [F2.1]; exact L1
  simp only [AW_k, AWk_1, x_aload_1, x_aloads_1, x_aload_0, x_aloads_0, x_iload_3, x_push_i, x_push_l, x_iadd, x_iald, x_ialds, x_callv_4, x_aload_2, x_aloads_2, x_icmp_eq, x_ret, x_ret_i, x_ret_z, x_ret_l, x_ret_c, x_iinc_3, x_goto, unl_i, unl_l, unl_q, unl_r, unl_s, unl_n, k_L_law_1231, k_L_law_1232, k_L_law_1233, k_L_law_1234, k_L_law_1235, k_L_law_1236, k_L_law_1237, k_L_law_1238, k_L_law_1239, k_L_law_1240, k_L_law_1241, k_L_law_1242, k_L_law_1243, k_L_law_1244, k_L_law_1245, k_L_law_1246, k_L_law_1247, k_L_law_1248, k_L_law_1249, k_L_law_1250, k_L_law_1251, k_L_law_1252, k_L_law_1253, k_L_law_1254, k_L_law_1255, k_L_law_1256, k_L_law_1257, k_L_law_1258, k_L_law_1259, k_L_law_1260, k_L_law_1261, k_L_law_1262, k_L_law_1263, k_L_law_1264, k_L_law_1265, k_L_law_1266, k_L_law_1267, k_L_law_1316, k_L_law_1317, oE_some, Int.reduceToNat, Nat.reduceAdd, true_and, and_true, List.length_cons, List.length_nil, Option.toList_some, Option.toList_none, List.cons_append, List.nil_append, Nat.reduceLeDiff, Nat.le_refl, wdS_nil, wdS_i, wdS_l, wdS_r, wdS_n, wdS_s, c0, c1, st9, e1, (WSC_c hs 1 (by decide)).1, (WSC_c hs 1 (by decide)).2, e2, (WSC_c hs 2 (by decide)).1, (WSC_c hs 2 (by decide)).2, e3, (WSC_c hs 3 (by decide)).1, (WSC_c hs 3 (by decide)).2, P1, P2, wv, e6, ↓reduceIte]
  exact nx h2 (WSI_of ⟨X2, M2, h.2.2.1, h.2.2.2.1, h.2.2.2.2.1, L2⟩)
set_option maxHeartbeats 16000000 in
theorem lw_28 {scr : List Int} {R : PO} {i : Nat} {B : BU} {hp : HP} {n : Nat} {G : BitVec 64} {z : Int} {c : Nat} {ks : List Int} {es : List Int} {ik : Bool} {kn : Nat} {kG : BitVec 64} {kz : Int} {kc : Nat} {kks : List Int} {kes : List Int} {tc : Nat} {tb : List Int} {sc : Nat} {tl : List Int} {so : List Int} {le : List Int} {it : Nat → List (BitVec 64)} {he : List Int} {th : List Int} {sl : List Int} {tr : Nat} {bo : List Int} (h : WLS hp n G z c ks es ik kn kG kz kc kks kes tc tb sc tl so le it he th sl tr bo) (hs : WSC scr i) (nx : WNX scr R (i + 6) B) : AW 1000 scr 302 R 738 [some (mS 9), some (mR 0), some (mR 54), some (mI (i : Int))] [] hp B := by
  have c0 := (WLS_c h).1
  have OK := XI_ok h.1
  have n16 := h.2.1.1.2
  have hX := h.1
  have hM := h.2.1
  have w := fun k => hs.2.2 (i + k)
  have e1 : (i : Int) + 1 = ((i + 1 : Nat) : Int) := rfl
  have e6 : (i : Int) + 6 = ((i + 6 : Nat) : Int) := rfl
  have st9 : stab scr 9 = scr := rfl
  have top : isL n G (lst n G (FC n - 1)) = true := lst_isL n16.1 n16.2 (by have : 0 < FC n := FC_pos n16.1 n16.2; omega)
  obtain ⟨h1, X1, K1, P1⟩ := x10_wayUp 900 hX (w 1) (fun _ => nr_ok n16.1 n16.2 h.2.2.1) top
  have M1 := MI_class hM K1
  have L1 := Nat.le_trans h.2.2.2.2.2 K1.1
  have a1 := MI_ws M1
  have c1 := a1.2.2.2.1
  obtain ⟨h2, M2, F2, P2⟩ := x_wayUp_m 900 M1 (w 1) h.2.2.1
  have X2 := XI_model X1 F2
  have L2 : 83 ≤ h2.length := by rw [F2.1]; exact L1
  simp only [AW_k, AWk_1, x_aload_1, x_aloads_1, x_aload_0, x_aloads_0, x_iload_3, x_push_i, x_push_l, x_iadd, x_iald, x_ialds, x_callv_2, x_aload_2, x_aloads_2, x_icmp_eq, x_ret, x_ret_i, x_ret_z, x_ret_l, x_ret_c, x_iinc_3, x_goto, unl_i, unl_l, unl_q, unl_r, unl_s, unl_n, k_L_law_738, k_L_law_739, k_L_law_740, k_L_law_741, k_L_law_742, k_L_law_743, k_L_law_744, k_L_law_745, k_L_law_746, k_L_law_747, k_L_law_748, k_L_law_749, k_L_law_750, k_L_law_751, k_L_law_752, k_L_law_753, k_L_law_754, k_L_law_1316, k_L_law_1317, oE_some, Int.reduceToNat, Nat.reduceAdd, true_and, and_true, List.length_cons, List.length_nil, Option.toList_some, Option.toList_none, List.cons_append, List.nil_append, Nat.reduceLeDiff, Nat.le_refl, wdS_nil, wdS_i, wdS_l, wdS_r, wdS_n, wdS_s, c0, c1, st9, e1, (WSC_c hs 1 (by decide)).1, (WSC_c hs 1 (by decide)).2, P1, P2, e6, ↓reduceIte]
  exact nx h2 (WSI_of ⟨X2, M2, h.2.2.1, h.2.2.2.1, h.2.2.2.2.1, L2⟩)
set_option maxHeartbeats 16000000 in
theorem lw_19 {scr : List Int} {R : PO} {i : Nat} {B : BU} {hp : HP} {n : Nat} {G : BitVec 64} {z : Int} {c : Nat} {ks : List Int} {es : List Int} {ik : Bool} {kn : Nat} {kG : BitVec 64} {kz : Int} {kc : Nat} {kks : List Int} {kes : List Int} {tc : Nat} {tb : List Int} {sc : Nat} {tl : List Int} {so : List Int} {le : List Int} {it : Nat → List (BitVec 64)} {he : List Int} {th : List Int} {sl : List Int} {tr : Nat} {bo : List Int} (h : WLS hp n G z c ks es ik kn kG kz kc kks kes tc tb sc tl so le it he th sl tr bo) (hs : WSC scr i) (nx : WNX scr R (i + 6) B) : AW 1000 scr 302 R 491 [some (mS 9), some (mR 0), some (mR 54), some (mI (i : Int))] [] hp B := by
  have c0 := (WLS_c h).1
  have OK := XI_ok h.1
  have n16 := h.2.1.1.2
  have hX := h.1
  have hM := h.2.1
  have w := fun k => hs.2.2 (i + k)
  have e1 : (i : Int) + 1 = ((i + 1 : Nat) : Int) := rfl
  have e2 : (i : Int) + 2 = ((i + 2 : Nat) : Int) := rfl
  have e3 : (i : Int) + 3 = ((i + 3 : Nat) : Int) := rfl
  have e6 : (i : Int) + 6 = ((i + 6 : Nat) : Int) := rfl
  have st9 : stab scr 9 = scr := rfl
  obtain ⟨h1, X1, K1, P1⟩ := x10_feed 900 (g := (BitVec.ofInt 64 (w32 (scr.getD (i + 1) 0)) <<< (w32 32 % 64).toNat ||| BitVec.ofInt 64 (w32 (scr.getD (i + 2) 0)) &&& 4294967295#64)) hX (w 3)
  have M1 := MI_class hM K1
  have L1 := Nat.le_trans h.2.2.2.2.2 K1.1
  have a1 := MI_ws M1
  have c1 := a1.2.2.2.1
  obtain ⟨h2, M2, F2, P2⟩ := x_feed_m 900 (g := (BitVec.ofInt 64 (w32 (scr.getD (i + 1) 0)) <<< (w32 32 % 64).toNat ||| BitVec.ofInt 64 (w32 (scr.getD (i + 2) 0)) &&& 4294967295#64)) M1 OK.2.2.2.2.2.1.2 (w 3)
  have X2 := XI_model X1 F2
  have L2 : 83 ≤ h2.length := by rw [F2.1]; exact L1
  simp only [AW_k, AWk_1, x_aload_1, x_aloads_1, x_aload_0, x_aloads_0, x_iload_3, x_push_i, x_push_l, x_iadd, x_iald, x_ialds, x_i2l, x_lshl, x_land, x_lor, x_callv_3, x_aload_2, x_aloads_2, x_icmp_eq, x_ret, x_ret_i, x_ret_z, x_ret_l, x_ret_c, x_iinc_3, x_goto, unl_i, unl_l, unl_q, unl_r, unl_s, unl_n, k_L_law_491, k_L_law_492, k_L_law_493, k_L_law_494, k_L_law_495, k_L_law_496, k_L_law_497, k_L_law_498, k_L_law_499, k_L_law_500, k_L_law_501, k_L_law_502, k_L_law_503, k_L_law_504, k_L_law_505, k_L_law_506, k_L_law_507, k_L_law_508, k_L_law_509, k_L_law_510, k_L_law_511, k_L_law_512, k_L_law_513, k_L_law_514, k_L_law_515, k_L_law_516, k_L_law_517, k_L_law_518, k_L_law_519, k_L_law_520, k_L_law_521, k_L_law_522, k_L_law_523, k_L_law_524, k_L_law_525, k_L_law_526, k_L_law_527, k_L_law_528, k_L_law_529, k_L_law_530, k_L_law_531, k_L_law_532, k_L_law_533, k_L_law_534, k_L_law_535, k_L_law_536, k_L_law_537, k_L_law_538, k_L_law_539, k_L_law_540, k_L_law_541, k_L_law_1316, k_L_law_1317, oE_some, Int.reduceToNat, Nat.reduceAdd, true_and, and_true, List.length_cons, List.length_nil, Option.toList_some, Option.toList_none, List.cons_append, List.nil_append, Nat.reduceLeDiff, Nat.le_refl, wdS_nil, wdS_i, wdS_l, wdS_r, wdS_n, wdS_s, c0, c1, st9, e1, (WSC_c hs 1 (by decide)).1, (WSC_c hs 1 (by decide)).2, e2, (WSC_c hs 2 (by decide)).1, (WSC_c hs 2 (by decide)).2, e3, (WSC_c hs 3 (by decide)).1, (WSC_c hs 3 (by decide)).2, P1, P2, e6, ↓reduceIte]
  exact nx h2 (WSI_of ⟨X2, M2, h.2.2.1, h.2.2.2.1, h.2.2.2.2.1, L2⟩)
set_option maxHeartbeats 16000000 in
theorem lw_20 {scr : List Int} {R : PO} {i : Nat} {B : BU} {hp : HP} {n : Nat} {G : BitVec 64} {z : Int} {c : Nat} {ks : List Int} {es : List Int} {ik : Bool} {kn : Nat} {kG : BitVec 64} {kz : Int} {kc : Nat} {kks : List Int} {kes : List Int} {tc : Nat} {tb : List Int} {sc : Nat} {tl : List Int} {so : List Int} {le : List Int} {it : Nat → List (BitVec 64)} {he : List Int} {th : List Int} {sl : List Int} {tr : Nat} {bo : List Int} (h : WLS hp n G z c ks es ik kn kG kz kc kks kes tc tb sc tl so le it he th sl tr bo) (hs : WSC scr i) (nx : WNX scr R (i + 6) B) : AW 1000 scr 302 R 542 [some (mS 9), some (mR 0), some (mR 54), some (mI (i : Int))] [] hp B := by
  have c0 := (WLS_c h).1
  have OK := XI_ok h.1
  have n16 := h.2.1.1.2
  have hX := h.1
  have hM := h.2.1
  have w := fun k => hs.2.2 (i + k)
  have e1 : (i : Int) + 1 = ((i + 1 : Nat) : Int) := rfl
  have e6 : (i : Int) + 6 = ((i + 6 : Nat) : Int) := rfl
  have st9 : stab scr 9 = scr := rfl
  obtain ⟨V, h1, hV, X1, K1, P1⟩ := x10_text 900 hX (w 1)
  have M1 := MI_class hM K1
  have L1 := Nat.le_trans h.2.2.2.2.2 K1.1
  have a1 := MI_ws M1
  have c1 := a1.2.2.2.1
  obtain ⟨h2, M2, F2, P2⟩ := x_text_m 900 M1 OK.2.2.2.2.2.1.1 OK.2.2.2.2.2.1.2 hV (w 1)
  have X2 := XI_model X1 F2
  have L2 : 83 ≤ h2.length := by rw [F2.1]; exact L1
  simp only [AW_k, AWk_1, x_aload_1, x_aloads_1, x_aload_0, x_aloads_0, x_iload_3, x_push_i, x_push_l, x_iadd, x_iald, x_ialds, x_callv_2, x_aload_2, x_aloads_2, x_icmp_eq, x_ret, x_ret_i, x_ret_z, x_ret_l, x_ret_c, x_iinc_3, x_goto, unl_i, unl_l, unl_q, unl_r, unl_s, unl_n, k_L_law_542, k_L_law_543, k_L_law_544, k_L_law_545, k_L_law_546, k_L_law_547, k_L_law_548, k_L_law_549, k_L_law_550, k_L_law_551, k_L_law_552, k_L_law_553, k_L_law_554, k_L_law_555, k_L_law_556, k_L_law_557, k_L_law_558, k_L_law_1316, k_L_law_1317, oE_some, Int.reduceToNat, Nat.reduceAdd, true_and, and_true, List.length_cons, List.length_nil, Option.toList_some, Option.toList_none, List.cons_append, List.nil_append, Nat.reduceLeDiff, Nat.le_refl, wdS_nil, wdS_i, wdS_l, wdS_r, wdS_n, wdS_s, c0, c1, st9, e1, (WSC_c hs 1 (by decide)).1, (WSC_c hs 1 (by decide)).2, P1, P2, e6, ↓reduceIte]
  exact nx h2 (WSI_of ⟨X2, M2, clo_txG n16.1 n16.2 h.2.2.1, h.2.2.2.1, h.2.2.2.2.1, L2⟩)
set_option maxHeartbeats 16000000 in
theorem lw_39 {scr : List Int} {R : PO} {i : Nat} {B : BU} {hp : HP} {n : Nat} {G : BitVec 64} {z : Int} {c : Nat} {ks : List Int} {es : List Int} {ik : Bool} {kn : Nat} {kG : BitVec 64} {kz : Int} {kc : Nat} {kks : List Int} {kes : List Int} {tc : Nat} {tb : List Int} {sc : Nat} {tl : List Int} {so : List Int} {le : List Int} {it : Nat → List (BitVec 64)} {he : List Int} {th : List Int} {sl : List Int} {tr : Nat} {bo : List Int} (h : WLS hp n G z c ks es ik kn kG kz kc kks kes tc tb sc tl so le it he th sl tr bo) (hs : WSC scr i) (nx : WNX scr R (i + 6) B) : AW 1000 scr 302 R 985 [some (mS 9), some (mR 0), some (mR 54), some (mI (i : Int))] [] hp B := by
  have c0 := (WLS_c h).1
  have OK := XI_ok h.1
  have n16 := h.2.1.1.2
  have hX := h.1
  have hM := h.2.1
  have w := fun k => hs.2.2 (i + k)
  have e1 : (i : Int) + 1 = ((i + 1 : Nat) : Int) := rfl
  have e2 : (i : Int) + 2 = ((i + 2 : Nat) : Int) := rfl
  have e3 : (i : Int) + 3 = ((i + 3 : Nat) : Int) := rfl
  have e4 : (i : Int) + 4 = ((i + 4 : Nat) : Int) := rfl
  have e6 : (i : Int) + 6 = ((i + 6 : Nat) : Int) := rfl
  have st9 : stab scr 9 = scr := rfl
  obtain ⟨h1, X1, K1, P1⟩ := x10_put 900 (v := (BitVec.ofInt 64 (w32 (scr.getD (i + 3) 0)) <<< (w32 32 % 64).toNat ||| BitVec.ofInt 64 (w32 (scr.getD (i + 4) 0)) &&& 4294967295#64)) hX (w 1) (w 2)
  have M1 := MI_class hM K1
  have L1 := Nat.le_trans h.2.2.2.2.2 K1.1
  have a1 := MI_ws M1
  have c1 := a1.2.2.2.1
  obtain ⟨h2, M2, F2, P2⟩ := x_put_m 900 (v := (BitVec.ofInt 64 (w32 (scr.getD (i + 3) 0)) <<< (w32 32 % 64).toNat ||| BitVec.ofInt 64 (w32 (scr.getD (i + 4) 0)) &&& 4294967295#64)) M1 OK.2.1 (w 1) (w 2)
  have X2 := XI_model X1 F2
  have L2 : 83 ≤ h2.length := by rw [F2.1]; exact L1
  simp only [AW_k, AWk_1, x_aload_1, x_aloads_1, x_aload_0, x_aloads_0, x_iload_3, x_push_i, x_push_l, x_iadd, x_iald, x_ialds, x_i2l, x_lshl, x_land, x_lor, x_callv_4, x_aload_2, x_aloads_2, x_icmp_eq, x_ret, x_ret_i, x_ret_z, x_ret_l, x_ret_c, x_iinc_3, x_goto, unl_i, unl_l, unl_q, unl_r, unl_s, unl_n, k_L_law_985, k_L_law_986, k_L_law_987, k_L_law_988, k_L_law_989, k_L_law_990, k_L_law_991, k_L_law_992, k_L_law_993, k_L_law_994, k_L_law_995, k_L_law_996, k_L_law_997, k_L_law_998, k_L_law_999, k_L_law_1000, k_L_law_1001, k_L_law_1002, k_L_law_1003, k_L_law_1004, k_L_law_1005, k_L_law_1006, k_L_law_1007, k_L_law_1008, k_L_law_1009, k_L_law_1010, k_L_law_1011, k_L_law_1012, k_L_law_1013, k_L_law_1014, k_L_law_1015, k_L_law_1016, k_L_law_1017, k_L_law_1018, k_L_law_1019, k_L_law_1020, k_L_law_1021, k_L_law_1022, k_L_law_1023, k_L_law_1024, k_L_law_1025, k_L_law_1026, k_L_law_1027, k_L_law_1028, k_L_law_1029, k_L_law_1030, k_L_law_1031, k_L_law_1032, k_L_law_1033, k_L_law_1034, k_L_law_1035, k_L_law_1036, k_L_law_1037, k_L_law_1038, k_L_law_1039, k_L_law_1040, k_L_law_1041, k_L_law_1042, k_L_law_1043, k_L_law_1044, k_L_law_1045, k_L_law_1316, k_L_law_1317, oE_some, Int.reduceToNat, Nat.reduceAdd, true_and, and_true, List.length_cons, List.length_nil, Option.toList_some, Option.toList_none, List.cons_append, List.nil_append, Nat.reduceLeDiff, Nat.le_refl, wdS_nil, wdS_i, wdS_l, wdS_r, wdS_n, wdS_s, c0, c1, st9, e1, (WSC_c hs 1 (by decide)).1, (WSC_c hs 1 (by decide)).2, e2, (WSC_c hs 2 (by decide)).1, (WSC_c hs 2 (by decide)).2, e3, (WSC_c hs 3 (by decide)).1, (WSC_c hs 3 (by decide)).2, e4, (WSC_c hs 4 (by decide)).1, (WSC_c hs 4 (by decide)).2, P1, P2, e6, ↓reduceIte]
  exact nx h2 (WSI_of ⟨X2, M2, h.2.2.1, h.2.2.2.1, itOK_put OK.2.1.2.2.1 h.2.2.2.2.1, L2⟩)
set_option maxHeartbeats 16000000 in
theorem lw_0 {scr : List Int} {R : PO} {i : Nat} {B : BU} {hp : HP} {n : Nat} {G : BitVec 64} {z : Int} {c : Nat} {ks : List Int} {es : List Int} {ik : Bool} {kn : Nat} {kG : BitVec 64} {kz : Int} {kc : Nat} {kks : List Int} {kes : List Int} {tc : Nat} {tb : List Int} {sc : Nat} {tl : List Int} {so : List Int} {le : List Int} {it : Nat → List (BitVec 64)} {he : List Int} {th : List Int} {sl : List Int} {tr : Nat} {bo : List Int} (h : WLS hp n G z c ks es ik kn kG kz kc kks kes tc tb sc tl so le it he th sl tr bo) (hs : WSC scr i) (hB : 17 ≤ B.1 ∧ 10556 ≤ B.2) (nx : WNX scr R (i + 6) (B.1 - 17, B.2 - 10556)) : AW 1000 scr 302 R 22 [some (mS 9), some (mR 0), some (mR 54), some (mI (i : Int))] [] hp B := by
  have c0 := (WLS_c h).1
  have OK := XI_ok h.1
  have n16 := h.2.1.1.2
  have hX := h.1
  have hM := h.2.1
  have w := fun k => hs.2.2 (i + k)
  have e1 : (i : Int) + 1 = ((i + 1 : Nat) : Int) := rfl
  have e6 : (i : Int) + 6 = ((i + 6 : Nat) : Int) := rfl
  have st9 : stab scr 9 = scr := rfl
  have b1 := hB.1
  have b2 := hB.2
  by_cases hin : 1 ≤ scr.getD (i + 1) 0 ∧ scr.getD (i + 1) 0 ≤ 6
  · obtain ⟨h1, X1, K1, P1⟩ := x10_size_in 900 hX (w 1) hin h.2.2.2.2.2
    have M1 := MI_class hM K1
    have L1 := Nat.le_trans h.2.2.2.2.2 K1.1
    have a1 := MI_ws M1
    have c1 := a1.2.2.2.1
    obtain ⟨h2, M2, F2, P2⟩ := x_size_m 900 M1 (w 1) hin
    have X2 := XI_model X1 F2
    have L2 : 83 ≤ h2.length := by rw [F2.1]; exact L1
    have CG : clo (scr.getD (i + 1) 0).toNat (if scr.getD (i + 1) 0 = (n : Int) then G else 0#64) := by
      split
      · next q => rw [q, Int.toNat_natCast]; exact h.2.2.1
      · exact clo_0 _
    simp only [AW_k, AWk_1, x_aload_1, x_aloads_1, x_aload_0, x_aloads_0, x_iload_3, x_push_i, x_push_l, x_iadd, x_iald, x_ialds, x_callvB_2, x_aload_2, x_aloads_2, x_callv_2, x_icmp_eq, x_ret, x_ret_i, x_ret_z, x_ret_l, x_ret_c, x_iinc_3, x_goto, unl_i, unl_l, unl_q, unl_r, unl_s, unl_n, k_L_law_22, k_L_law_23, k_L_law_24, k_L_law_25, k_L_law_26, k_L_law_27, k_L_law_28, k_L_law_29, k_L_law_30, k_L_law_31, k_L_law_32, k_L_law_33, k_L_law_34, k_L_law_35, k_L_law_36, k_L_law_37, k_L_law_38, k_L_law_1316, k_L_law_1317, oE_some, Int.reduceToNat, Nat.reduceAdd, true_and, and_true, List.length_cons, List.length_nil, Option.toList_some, Option.toList_none, List.cons_append, List.nil_append, Nat.reduceLeDiff, Nat.le_refl, wdS_nil, wdS_i, wdS_l, wdS_r, wdS_n, wdS_s, c0, c1, st9, e1, (WSC_c hs 1 (by decide)).1, (WSC_c hs 1 (by decide)).2, P1, P2, b1, b2, show (17 : Int).toNat = 17 from rfl, Nat.zero_le, e6, ↓reduceIte]
    generalize B.1 - 17 = q1 at nx ⊢
    generalize B.2 - 10556 = q2 at nx ⊢
    exact nx h2 (WSI_of ⟨X2, M2, CG, h.2.2.2.1, h.2.2.2.2.1, L2⟩)
  · have P1 := fun R => x10_size_out 900 hX (w 1) hin R
    have a1 := MI_ws hM
    have c1 := a1.2.2.2.1
    have P2 := fun R => x_size_m_out 900 (hp := hp) (w 1) hin R
    simp only [AW_k, AWk_1, x_aload_1, x_aloads_1, x_aload_0, x_aloads_0, x_iload_3, x_push_i, x_push_l, x_iadd, x_iald, x_ialds, x_callvB_2, x_aload_2, x_aloads_2, x_callv_2, x_icmp_eq, x_ret, x_ret_i, x_ret_z, x_ret_l, x_ret_c, x_iinc_3, x_goto, unl_i, unl_l, unl_q, unl_r, unl_s, unl_n, k_L_law_22, k_L_law_23, k_L_law_24, k_L_law_25, k_L_law_26, k_L_law_27, k_L_law_28, k_L_law_29, k_L_law_30, k_L_law_31, k_L_law_32, k_L_law_33, k_L_law_34, k_L_law_35, k_L_law_36, k_L_law_37, k_L_law_38, k_L_law_1316, k_L_law_1317, oE_some, Int.reduceToNat, Nat.reduceAdd, true_and, and_true, List.length_cons, List.length_nil, Option.toList_some, Option.toList_none, List.cons_append, List.nil_append, Nat.reduceLeDiff, Nat.le_refl, wdS_nil, wdS_i, wdS_l, wdS_r, wdS_n, wdS_s, c0, c1, st9, e1, (WSC_c hs 1 (by decide)).1, (WSC_c hs 1 (by decide)).2, P1, P2, b1, b2, show (17 : Int).toNat = 17 from rfl, Nat.zero_le, e6, ↓reduceIte]
    generalize B.1 - 17 = q1 at nx ⊢
    generalize B.2 - 10556 = q2 at nx ⊢
    exact nx hp (WSI_of h)
set_option maxHeartbeats 16000000 in
theorem lw_49 {scr : List Int} {R : PO} {i : Nat} {B : BU} {hp : HP} {n : Nat} {G : BitVec 64} {z : Int} {c : Nat} {ks : List Int} {es : List Int} {ik : Bool} {kn : Nat} {kG : BitVec 64} {kz : Int} {kc : Nat} {kks : List Int} {kes : List Int} {tc : Nat} {tb : List Int} {sc : Nat} {tl : List Int} {so : List Int} {le : List Int} {it : Nat → List (BitVec 64)} {he : List Int} {th : List Int} {sl : List Int} {tr : Nat} {bo : List Int} (h : WLS hp n G z c ks es ik kn kG kz kc kks kes tc tb sc tl so le it he th sl tr bo) (hs : WSC scr i) (hB : 17 ≤ B.1 ∧ 10556 ≤ B.2) (nx : WNX scr R (i + 6) (B.1 - 17, B.2 - 10556)) : AW 1000 scr 302 R 1309 [some (mS 9), some (mR 0), some (mR 54), some (mI (i : Int))] [] hp B := by
  have c0 := (WLS_c h).1
  have OK := XI_ok h.1
  have n16 := h.2.1.1.2
  have hX := h.1
  have hM := h.2.1
  have w := fun k => hs.2.2 (i + k)
  have e6 : (i : Int) + 6 = ((i + 6 : Nat) : Int) := rfl
  have st9 : stab scr 9 = scr := rfl
  have b1 := hB.1
  have b2 := hB.2
  by_cases hk : ik = true
  · obtain ⟨h1, X1, K1, P1⟩ := x10_again 900 hX hk h.2.2.2.2.2
    have M1 := MI_class hM K1
    have L1 := Nat.le_trans h.2.2.2.2.2 K1.1
    have a1 := MI_ws M1
    have c1 := a1.2.2.2.1
    obtain ⟨h2, M2, F2, P2⟩ := x_again_m 900 M1 hk OK.2.2.2.2.2.2
    have X2 := XI_model X1 F2
    have L2 : 83 ≤ h2.length := by rw [F2.1]; exact L1
    simp only [AW_k, AWk_1, x_aload_1, x_aloads_1, x_callvB_1, x_aload_2, x_aloads_2, x_callv_1, x_icmp_eq, x_push_i, x_push_l, x_ret, x_ret_i, x_ret_z, x_ret_l, x_ret_c, x_iinc_3, x_goto, unl_i, unl_l, unl_q, unl_r, unl_s, unl_n, k_L_law_1309, k_L_law_1310, k_L_law_1311, k_L_law_1312, k_L_law_1313, k_L_law_1314, k_L_law_1315, k_L_law_1316, k_L_law_1317, oE_some, Int.reduceToNat, Nat.reduceAdd, true_and, and_true, List.length_cons, List.length_nil, Option.toList_some, Option.toList_none, List.cons_append, List.nil_append, Nat.reduceLeDiff, Nat.le_refl, wdS_nil, wdS_i, wdS_l, wdS_r, wdS_n, wdS_s, c0, c1, st9, P1, P2, b1, b2, show (17 : Int).toNat = 17 from rfl, Nat.zero_le, e6, ↓reduceIte]
    generalize B.1 - 17 = q1 at nx ⊢
    generalize B.2 - 10556 = q2 at nx ⊢
    exact nx h2 (WSI_of ⟨X2, M2, h.2.2.2.1 hk, h.2.2.2.1, h.2.2.2.2.1, L2⟩)
  · have hk := Bool.eq_false_iff.mpr hk
    have P1 := fun R => x10_again_n 900 hX hk R
    have a1 := MI_ws hM
    have c1 := a1.2.2.2.1
    have P2 := fun R => x_again_m_n 900 hM hk R
    simp only [AW_k, AWk_1, x_aload_1, x_aloads_1, x_callvB_1, x_aload_2, x_aloads_2, x_callv_1, x_icmp_eq, x_push_i, x_push_l, x_ret, x_ret_i, x_ret_z, x_ret_l, x_ret_c, x_iinc_3, x_goto, unl_i, unl_l, unl_q, unl_r, unl_s, unl_n, k_L_law_1309, k_L_law_1310, k_L_law_1311, k_L_law_1312, k_L_law_1313, k_L_law_1314, k_L_law_1315, k_L_law_1316, k_L_law_1317, oE_some, Int.reduceToNat, Nat.reduceAdd, true_and, and_true, List.length_cons, List.length_nil, Option.toList_some, Option.toList_none, List.cons_append, List.nil_append, Nat.reduceLeDiff, Nat.le_refl, wdS_nil, wdS_i, wdS_l, wdS_r, wdS_n, wdS_s, c0, c1, st9, P1, P2, b1, b2, show (17 : Int).toNat = 17 from rfl, Nat.zero_le, e6, ↓reduceIte]
    generalize B.1 - 17 = q1 at nx ⊢
    generalize B.2 - 10556 = q2 at nx ⊢
    exact nx hp (WSI_of h)
