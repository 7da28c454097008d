theorem lk_4 : iv_chk code mc_1 fl_L 200 ((mc_1.drop 200).take 50) = true := by decide +kernel
theorem lk_5 : iv_chk code mc_1 fl_L 250 ((mc_1.drop 250).take 50) = true := by decide +kernel
theorem lk_6 : iv_chk code mc_1 fl_L 300 ((mc_1.drop 300).take 50) = true := by decide +kernel
theorem lk_7 : iv_chk code mc_1 fl_L 350 ((mc_1.drop 350).take 50) = true := by decide +kernel
