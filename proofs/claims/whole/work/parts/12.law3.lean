theorem lk_12 : iv_chk code mc_1 fl_L 600 ((mc_1.drop 600).take 30) = true := by decide +kernel
