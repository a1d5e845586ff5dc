set_option maxRecDepth 100000 in
theorem ckl_0 : (List.range 40).all (fun i => ckI nM (0 + i)) = true := by decide +kernel
set_option maxRecDepth 100000 in
theorem ckl_1 : (List.range 40).all (fun i => ckI nM (40 + i)) = true := by decide +kernel
set_option maxRecDepth 100000 in
theorem ckl_2 : (List.range 40).all (fun i => ckI nM (80 + i)) = true := by decide +kernel
set_option maxRecDepth 100000 in
theorem ckl_3 : (List.range 40).all (fun i => ckI nM (120 + i)) = true := by decide +kernel
set_option maxRecDepth 100000 in
theorem ckl_4 : (List.range 40).all (fun i => ckI nM (160 + i)) = true := by decide +kernel
set_option maxRecDepth 100000 in
theorem ckl_5 : (List.range 40).all (fun i => ckI nM (200 + i)) = true := by decide +kernel
set_option maxRecDepth 100000 in
theorem ckl_6 : (List.range 40).all (fun i => ckI nM (240 + i)) = true := by decide +kernel
set_option maxRecDepth 100000 in
theorem ckl_7 : (List.range 40).all (fun i => ckI nM (280 + i)) = true := by decide +kernel
set_option maxRecDepth 100000 in
theorem ckl_8 : (List.range 40).all (fun i => ckI nM (320 + i)) = true := by decide +kernel
set_option maxRecDepth 100000 in
theorem ckl_9 : (List.range 40).all (fun i => ckI nM (360 + i)) = true := by decide +kernel
set_option maxRecDepth 100000 in
theorem ckl_10 : (List.range 40).all (fun i => ckI nM (400 + i)) = true := by decide +kernel
set_option maxRecDepth 100000 in
theorem ckl_11 : (List.range 40).all (fun i => ckI nM (440 + i)) = true := by decide +kernel
set_option maxRecDepth 100000 in
theorem ckl_12 : (List.range 40).all (fun i => ckI nM (480 + i)) = true := by decide +kernel
set_option maxRecDepth 100000 in
theorem ckl_13 : (List.range 40).all (fun i => ckI nM (520 + i)) = true := by decide +kernel
set_option maxRecDepth 100000 in
theorem ckl_14 : (List.range 40).all (fun i => ckI nM (560 + i)) = true := by decide +kernel
set_option maxRecDepth 100000 in
theorem ckl_15 : (List.range 40).all (fun i => ckI nM (600 + i)) = true := by decide +kernel
set_option maxRecDepth 100000 in
theorem ckl_16 : (List.range 40).all (fun i => ckI nM (640 + i)) = true := by decide +kernel
set_option maxRecDepth 100000 in
theorem ckl_17 : (List.range 40).all (fun i => ckI nM (680 + i)) = true := by decide +kernel
set_option maxRecDepth 100000 in
theorem ckl_18 : (List.range 40).all (fun i => ckI nM (720 + i)) = true := by decide +kernel
set_option maxRecDepth 100000 in
theorem ckl_19 : (List.range 40).all (fun i => ckI nM (760 + i)) = true := by decide +kernel
set_option maxRecDepth 100000 in
theorem ckl_20 : (List.range 40).all (fun i => ckI nM (800 + i)) = true := by decide +kernel
set_option maxRecDepth 100000 in
theorem ckl_21 : (List.range 40).all (fun i => ckI nM (840 + i)) = true := by decide +kernel
set_option maxRecDepth 100000 in
theorem ckl_22 : (List.range 40).all (fun i => ckI nM (880 + i)) = true := by decide +kernel
set_option maxRecDepth 100000 in
theorem ckl_23 : (List.range 40).all (fun i => ckI nM (920 + i)) = true := by decide +kernel
set_option maxRecDepth 100000 in
theorem ckl_24 : (List.range 40).all (fun i => ckI nM (960 + i)) = true := by decide +kernel
set_option maxRecDepth 100000 in
theorem ckl_25 : (List.range 40).all (fun i => ckI nM (1000 + i)) = true := by decide +kernel
set_option maxRecDepth 100000 in
theorem ckl_26 : (List.range 40).all (fun i => ckI nM (1040 + i)) = true := by decide +kernel
set_option maxRecDepth 100000 in
theorem ckl_27 : (List.range 40).all (fun i => ckI nM (1080 + i)) = true := by decide +kernel
set_option maxRecDepth 100000 in
theorem ckl_28 : (List.range 40).all (fun i => ckI nM (1120 + i)) = true := by decide +kernel
set_option maxRecDepth 100000 in
theorem ckl_29 : (List.range 40).all (fun i => ckI nM (1160 + i)) = true := by decide +kernel
set_option maxRecDepth 100000 in
theorem ckl_30 : (List.range 40).all (fun i => ckI nM (1200 + i)) = true := by decide +kernel
set_option maxRecDepth 100000 in
theorem ckl_31 : (List.range 40).all (fun i => ckI nM (1240 + i)) = true := by decide +kernel
set_option maxRecDepth 100000 in
theorem ckl_32 : (List.range 40).all (fun i => ckI nM (1280 + i)) = true := by decide +kernel
set_option maxRecDepth 100000 in
theorem ckl_e : (decide ((mP nM).length = 1320) && decide (pcO nM 0 = 0) && decide ((cdL nM).length ≤ (mP nM).length / 24 + 1) && decide ((cdq nM ((mP nM).length / 24)).length ≤ (mP nM).length % 24) && decide (mxN nM = mX nM)) = true := by decide +kernel
theorem ckl_all : ∀ k, k < 1320 → ckI nM k = true := by
  intro k hk
  have h : k / 40 < 33 := by omega
  have e : k = 40 * (k / 40) + k % 40 := (Nat.div_add_mod k 40).symm
  have hm : k % 40 < 40 := Nat.mod_lt _ (by decide)
  obtain h | h | h | h | h | h | h | h | h | h | h | h | h | h | h | h | h | h | h | h | h | h | h | h | h | h | h | h | h | h | h | h | h : k / 40 = 0 ∨ k / 40 = 1 ∨ k / 40 = 2 ∨ k / 40 = 3 ∨ k / 40 = 4 ∨ k / 40 = 5 ∨ k / 40 = 6 ∨ k / 40 = 7 ∨ k / 40 = 8 ∨ k / 40 = 9 ∨ k / 40 = 10 ∨ k / 40 = 11 ∨ k / 40 = 12 ∨ k / 40 = 13 ∨ k / 40 = 14 ∨ k / 40 = 15 ∨ k / 40 = 16 ∨ k / 40 = 17 ∨ k / 40 = 18 ∨ k / 40 = 19 ∨ k / 40 = 20 ∨ k / 40 = 21 ∨ k / 40 = 22 ∨ k / 40 = 23 ∨ k / 40 = 24 ∨ k / 40 = 25 ∨ k / 40 = 26 ∨ k / 40 = 27 ∨ k / 40 = 28 ∨ k / 40 = 29 ∨ k / 40 = 30 ∨ k / 40 = 31 ∨ k / 40 = 32 := by omega
  · have := List.all_eq_true.mp ckl_0 (k % 40) (List.mem_range.mpr hm)
    rwa [show 0 + k % 40 = k by omega] at this
  · have := List.all_eq_true.mp ckl_1 (k % 40) (List.mem_range.mpr hm)
    rwa [show 40 + k % 40 = k by omega] at this
  · have := List.all_eq_true.mp ckl_2 (k % 40) (List.mem_range.mpr hm)
    rwa [show 80 + k % 40 = k by omega] at this
  · have := List.all_eq_true.mp ckl_3 (k % 40) (List.mem_range.mpr hm)
    rwa [show 120 + k % 40 = k by omega] at this
  · have := List.all_eq_true.mp ckl_4 (k % 40) (List.mem_range.mpr hm)
    rwa [show 160 + k % 40 = k by omega] at this
  · have := List.all_eq_true.mp ckl_5 (k % 40) (List.mem_range.mpr hm)
    rwa [show 200 + k % 40 = k by omega] at this
  · have := List.all_eq_true.mp ckl_6 (k % 40) (List.mem_range.mpr hm)
    rwa [show 240 + k % 40 = k by omega] at this
  · have := List.all_eq_true.mp ckl_7 (k % 40) (List.mem_range.mpr hm)
    rwa [show 280 + k % 40 = k by omega] at this
  · have := List.all_eq_true.mp ckl_8 (k % 40) (List.mem_range.mpr hm)
    rwa [show 320 + k % 40 = k by omega] at this
  · have := List.all_eq_true.mp ckl_9 (k % 40) (List.mem_range.mpr hm)
    rwa [show 360 + k % 40 = k by omega] at this
  · have := List.all_eq_true.mp ckl_10 (k % 40) (List.mem_range.mpr hm)
    rwa [show 400 + k % 40 = k by omega] at this
  · have := List.all_eq_true.mp ckl_11 (k % 40) (List.mem_range.mpr hm)
    rwa [show 440 + k % 40 = k by omega] at this
  · have := List.all_eq_true.mp ckl_12 (k % 40) (List.mem_range.mpr hm)
    rwa [show 480 + k % 40 = k by omega] at this
  · have := List.all_eq_true.mp ckl_13 (k % 40) (List.mem_range.mpr hm)
    rwa [show 520 + k % 40 = k by omega] at this
  · have := List.all_eq_true.mp ckl_14 (k % 40) (List.mem_range.mpr hm)
    rwa [show 560 + k % 40 = k by omega] at this
  · have := List.all_eq_true.mp ckl_15 (k % 40) (List.mem_range.mpr hm)
    rwa [show 600 + k % 40 = k by omega] at this
  · have := List.all_eq_true.mp ckl_16 (k % 40) (List.mem_range.mpr hm)
    rwa [show 640 + k % 40 = k by omega] at this
  · have := List.all_eq_true.mp ckl_17 (k % 40) (List.mem_range.mpr hm)
    rwa [show 680 + k % 40 = k by omega] at this
  · have := List.all_eq_true.mp ckl_18 (k % 40) (List.mem_range.mpr hm)
    rwa [show 720 + k % 40 = k by omega] at this
  · have := List.all_eq_true.mp ckl_19 (k % 40) (List.mem_range.mpr hm)
    rwa [show 760 + k % 40 = k by omega] at this
  · have := List.all_eq_true.mp ckl_20 (k % 40) (List.mem_range.mpr hm)
    rwa [show 800 + k % 40 = k by omega] at this
  · have := List.all_eq_true.mp ckl_21 (k % 40) (List.mem_range.mpr hm)
    rwa [show 840 + k % 40 = k by omega] at this
  · have := List.all_eq_true.mp ckl_22 (k % 40) (List.mem_range.mpr hm)
    rwa [show 880 + k % 40 = k by omega] at this
  · have := List.all_eq_true.mp ckl_23 (k % 40) (List.mem_range.mpr hm)
    rwa [show 920 + k % 40 = k by omega] at this
  · have := List.all_eq_true.mp ckl_24 (k % 40) (List.mem_range.mpr hm)
    rwa [show 960 + k % 40 = k by omega] at this
  · have := List.all_eq_true.mp ckl_25 (k % 40) (List.mem_range.mpr hm)
    rwa [show 1000 + k % 40 = k by omega] at this
  · have := List.all_eq_true.mp ckl_26 (k % 40) (List.mem_range.mpr hm)
    rwa [show 1040 + k % 40 = k by omega] at this
  · have := List.all_eq_true.mp ckl_27 (k % 40) (List.mem_range.mpr hm)
    rwa [show 1080 + k % 40 = k by omega] at this
  · have := List.all_eq_true.mp ckl_28 (k % 40) (List.mem_range.mpr hm)
    rwa [show 1120 + k % 40 = k by omega] at this
  · have := List.all_eq_true.mp ckl_29 (k % 40) (List.mem_range.mpr hm)
    rwa [show 1160 + k % 40 = k by omega] at this
  · have := List.all_eq_true.mp ckl_30 (k % 40) (List.mem_range.mpr hm)
    rwa [show 1200 + k % 40 = k by omega] at this
  · have := List.all_eq_true.mp ckl_31 (k % 40) (List.mem_range.mpr hm)
    rwa [show 1240 + k % 40 = k by omega] at this
  · have := List.all_eq_true.mp ckl_32 (k % 40) (List.mem_range.mpr hm)
    rwa [show 1280 + k % 40 = k by omega] at this
theorem ck_law : ckM nM = true := by
  have h := ckl_e
  simp only [Bool.and_eq_true, decide_eq_true_eq] at h
  obtain ⟨⟨⟨⟨h0, h1⟩, h2⟩, h3⟩, h4⟩ := h
  unfold ckM
  simp only [Bool.and_eq_true, decide_eq_true_eq]
  refine ⟨⟨⟨⟨List.all_eq_true.mpr fun k hk => ?_, h1⟩, h2⟩, h3⟩, h4⟩
  rw [h0] at hk
  exact ckl_all k (List.mem_range.mp hk)
