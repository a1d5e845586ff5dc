/-! ===== the code is the text: every method, checked ===== -/
set_option maxRecDepth 100000 in
theorem ckg_0 : (List.range 10).all (fun i => ckM (0 + i)) = true := by decide +kernel
set_option maxRecDepth 100000 in
theorem ckg_1 : (List.range 10).all (fun i => ckM (10 + i)) = true := by decide +kernel
set_option maxRecDepth 100000 in
theorem ckg_2 : (List.range 10).all (fun i => ckM (20 + i)) = true := by decide +kernel
set_option maxRecDepth 100000 in
theorem ckg_3 : (List.range 10).all (fun i => ckM (30 + i)) = true := by decide +kernel
set_option maxRecDepth 100000 in
theorem ckg_4 : (List.range 10).all (fun i => ckM (40 + i)) = true := by decide +kernel
set_option maxRecDepth 100000 in
theorem ckg_5 : (List.range 10).all (fun i => ckM (50 + i)) = true := by decide +kernel
set_option maxRecDepth 100000 in
theorem ckg_6 : (List.range 10).all (fun i => ckM (60 + i)) = true := by decide +kernel
set_option maxRecDepth 100000 in
theorem ckg_7 : (List.range 10).all (fun i => ckM (70 + i)) = true := by decide +kernel
set_option maxRecDepth 100000 in
theorem ckg_8 : (List.range 10).all (fun i => ckM (80 + i)) = true := by decide +kernel
set_option maxRecDepth 100000 in
theorem ckg_9 : (List.range 10).all (fun i => ckM (90 + i)) = true := by decide +kernel
set_option maxRecDepth 100000 in
theorem ckg_10 : (List.range 10).all (fun i => ckM (100 + i)) = true := by decide +kernel
set_option maxRecDepth 100000 in
theorem ckg_11 : (List.range 10).all (fun i => ckM (110 + i)) = true := by decide +kernel
set_option maxRecDepth 100000 in
theorem ckg_12 : (List.range 10).all (fun i => ckM (120 + i)) = true := by decide +kernel
set_option maxRecDepth 100000 in
theorem ckg_13 : (List.range 10).all (fun i => ckM (130 + i)) = true := by decide +kernel
set_option maxRecDepth 100000 in
theorem ckg_14 : (List.range 10).all (fun i => ckM (140 + i)) = true := by decide +kernel
set_option maxRecDepth 100000 in
theorem ckg_15 : (List.range 10).all (fun i => ckM (150 + i)) = true := by decide +kernel
set_option maxRecDepth 100000 in
theorem ckg_16 : (List.range 10).all (fun i => ckM (160 + i)) = true := by decide +kernel
set_option maxRecDepth 100000 in
theorem ckg_17 : (List.range 10).all (fun i => ckM (170 + i)) = true := by decide +kernel
set_option maxRecDepth 100000 in
theorem ckg_18 : (List.range 10).all (fun i => ckM (180 + i)) = true := by decide +kernel
set_option maxRecDepth 100000 in
theorem ckg_19 : (List.range 10).all (fun i => ckM (190 + i)) = true := by decide +kernel
set_option maxRecDepth 100000 in
theorem ckg_20 : (List.range 10).all (fun i => ckM (200 + i)) = true := by decide +kernel
set_option maxRecDepth 100000 in
theorem ckg_21 : (List.range 10).all (fun i => ckM (210 + i)) = true := by decide +kernel
set_option maxRecDepth 100000 in
theorem ckg_22 : (List.range 10).all (fun i => ckM (220 + i)) = true := by decide +kernel
set_option maxRecDepth 100000 in
theorem ckg_23 : (List.range 10).all (fun i => ckM (230 + i)) = true := by decide +kernel
set_option maxRecDepth 100000 in
theorem ckg_24 : (List.range 10).all (fun i => ckM (240 + i)) = true := by decide +kernel
set_option maxRecDepth 100000 in
theorem ckg_25 : (List.range 10).all (fun i => ckM (250 + i)) = true := by decide +kernel
set_option maxRecDepth 100000 in
theorem ckg_26 : (List.range 10).all (fun i => ckM (260 + i)) = true := by decide +kernel
set_option maxRecDepth 100000 in
theorem ckg_27 : (List.range 10).all (fun i => ckM (270 + i)) = true := by decide +kernel
set_option maxRecDepth 100000 in
theorem ckg_28 : (List.range 10).all (fun i => ckM (280 + i)) = true := by decide +kernel
set_option maxRecDepth 100000 in
theorem ckg_29 : (List.range 10).all (fun i => ckM (290 + i)) = true := by decide +kernel
set_option maxRecDepth 100000 in
theorem ckg_30 : (List.range 2).all (fun i => ckM (300 + i)) = true := by decide +kernel
theorem ck_all : ∀ M, M < nM → ckM M = true := by
  intro M hM
  have hM : M < 302 := hM
  obtain h | h | h | h | h | h | h | h | h | h | h | h | h | h | h | h | h | h | h | h | h | h | h | h | h | h | h | h | h | h | h : (0 ≤ M ∧ M < 10) ∨ (10 ≤ M ∧ M < 20) ∨ (20 ≤ M ∧ M < 30) ∨ (30 ≤ M ∧ M < 40) ∨ (40 ≤ M ∧ M < 50) ∨ (50 ≤ M ∧ M < 60) ∨ (60 ≤ M ∧ M < 70) ∨ (70 ≤ M ∧ M < 80) ∨ (80 ≤ M ∧ M < 90) ∨ (90 ≤ M ∧ M < 100) ∨ (100 ≤ M ∧ M < 110) ∨ (110 ≤ M ∧ M < 120) ∨ (120 ≤ M ∧ M < 130) ∨ (130 ≤ M ∧ M < 140) ∨ (140 ≤ M ∧ M < 150) ∨ (150 ≤ M ∧ M < 160) ∨ (160 ≤ M ∧ M < 170) ∨ (170 ≤ M ∧ M < 180) ∨ (180 ≤ M ∧ M < 190) ∨ (190 ≤ M ∧ M < 200) ∨ (200 ≤ M ∧ M < 210) ∨ (210 ≤ M ∧ M < 220) ∨ (220 ≤ M ∧ M < 230) ∨ (230 ≤ M ∧ M < 240) ∨ (240 ≤ M ∧ M < 250) ∨ (250 ≤ M ∧ M < 260) ∨ (260 ≤ M ∧ M < 270) ∨ (270 ≤ M ∧ M < 280) ∨ (280 ≤ M ∧ M < 290) ∨ (290 ≤ M ∧ M < 300) ∨ (300 ≤ M ∧ M < 302) := by omega
  · have := List.all_eq_true.mp ckg_0 (M - 0) (List.mem_range.mpr (by omega))
    rwa [show 0 + (M - 0) = M by omega] at this
  · have := List.all_eq_true.mp ckg_1 (M - 10) (List.mem_range.mpr (by omega))
    rwa [show 10 + (M - 10) = M by omega] at this
  · have := List.all_eq_true.mp ckg_2 (M - 20) (List.mem_range.mpr (by omega))
    rwa [show 20 + (M - 20) = M by omega] at this
  · have := List.all_eq_true.mp ckg_3 (M - 30) (List.mem_range.mpr (by omega))
    rwa [show 30 + (M - 30) = M by omega] at this
  · have := List.all_eq_true.mp ckg_4 (M - 40) (List.mem_range.mpr (by omega))
    rwa [show 40 + (M - 40) = M by omega] at this
  · have := List.all_eq_true.mp ckg_5 (M - 50) (List.mem_range.mpr (by omega))
    rwa [show 50 + (M - 50) = M by omega] at this
  · have := List.all_eq_true.mp ckg_6 (M - 60) (List.mem_range.mpr (by omega))
    rwa [show 60 + (M - 60) = M by omega] at this
  · have := List.all_eq_true.mp ckg_7 (M - 70) (List.mem_range.mpr (by omega))
    rwa [show 70 + (M - 70) = M by omega] at this
  · have := List.all_eq_true.mp ckg_8 (M - 80) (List.mem_range.mpr (by omega))
    rwa [show 80 + (M - 80) = M by omega] at this
  · have := List.all_eq_true.mp ckg_9 (M - 90) (List.mem_range.mpr (by omega))
    rwa [show 90 + (M - 90) = M by omega] at this
  · have := List.all_eq_true.mp ckg_10 (M - 100) (List.mem_range.mpr (by omega))
    rwa [show 100 + (M - 100) = M by omega] at this
  · have := List.all_eq_true.mp ckg_11 (M - 110) (List.mem_range.mpr (by omega))
    rwa [show 110 + (M - 110) = M by omega] at this
  · have := List.all_eq_true.mp ckg_12 (M - 120) (List.mem_range.mpr (by omega))
    rwa [show 120 + (M - 120) = M by omega] at this
  · have := List.all_eq_true.mp ckg_13 (M - 130) (List.mem_range.mpr (by omega))
    rwa [show 130 + (M - 130) = M by omega] at this
  · have := List.all_eq_true.mp ckg_14 (M - 140) (List.mem_range.mpr (by omega))
    rwa [show 140 + (M - 140) = M by omega] at this
  · have := List.all_eq_true.mp ckg_15 (M - 150) (List.mem_range.mpr (by omega))
    rwa [show 150 + (M - 150) = M by omega] at this
  · have := List.all_eq_true.mp ckg_16 (M - 160) (List.mem_range.mpr (by omega))
    rwa [show 160 + (M - 160) = M by omega] at this
  · have := List.all_eq_true.mp ckg_17 (M - 170) (List.mem_range.mpr (by omega))
    rwa [show 170 + (M - 170) = M by omega] at this
  · have := List.all_eq_true.mp ckg_18 (M - 180) (List.mem_range.mpr (by omega))
    rwa [show 180 + (M - 180) = M by omega] at this
  · have := List.all_eq_true.mp ckg_19 (M - 190) (List.mem_range.mpr (by omega))
    rwa [show 190 + (M - 190) = M by omega] at this
  · have := List.all_eq_true.mp ckg_20 (M - 200) (List.mem_range.mpr (by omega))
    rwa [show 200 + (M - 200) = M by omega] at this
  · have := List.all_eq_true.mp ckg_21 (M - 210) (List.mem_range.mpr (by omega))
    rwa [show 210 + (M - 210) = M by omega] at this
  · have := List.all_eq_true.mp ckg_22 (M - 220) (List.mem_range.mpr (by omega))
    rwa [show 220 + (M - 220) = M by omega] at this
  · have := List.all_eq_true.mp ckg_23 (M - 230) (List.mem_range.mpr (by omega))
    rwa [show 230 + (M - 230) = M by omega] at this
  · have := List.all_eq_true.mp ckg_24 (M - 240) (List.mem_range.mpr (by omega))
    rwa [show 240 + (M - 240) = M by omega] at this
  · have := List.all_eq_true.mp ckg_25 (M - 250) (List.mem_range.mpr (by omega))
    rwa [show 250 + (M - 250) = M by omega] at this
  · have := List.all_eq_true.mp ckg_26 (M - 260) (List.mem_range.mpr (by omega))
    rwa [show 260 + (M - 260) = M by omega] at this
  · have := List.all_eq_true.mp ckg_27 (M - 270) (List.mem_range.mpr (by omega))
    rwa [show 270 + (M - 270) = M by omega] at this
  · have := List.all_eq_true.mp ckg_28 (M - 280) (List.mem_range.mpr (by omega))
    rwa [show 280 + (M - 280) = M by omega] at this
  · have := List.all_eq_true.mp ckg_29 (M - 290) (List.mem_range.mpr (by omega))
    rwa [show 290 + (M - 290) = M by omega] at this
  · have := List.all_eq_true.mp ckg_30 (M - 300) (List.mem_range.mpr (by omega))
    rwa [show 300 + (M - 300) = M by omega] at this
