set_option maxRecDepth 100000 in
theorem ck_law : ckM nM = true := by decide +kernel
