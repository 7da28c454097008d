theorem lk_8 : iv_chk code mc_1 fl_L 400 ((mc_1.drop 400).take 50) = true := by decide +kernel
theorem lk_9 : iv_chk code mc_1 fl_L 450 ((mc_1.drop 450).take 50) = true := by decide +kernel
theorem lk_10 : iv_chk code mc_1 fl_L 500 ((mc_1.drop 500).take 50) = true := by decide +kernel
theorem lk_11 : iv_chk code mc_1 fl_L 550 ((mc_1.drop 550).take 50) = true := by decide +kernel
