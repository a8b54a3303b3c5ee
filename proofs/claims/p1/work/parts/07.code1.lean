/-! the methods of groups 4 on: their words, their instructions -/
theorem pm_gt4 : pm_g4.all pm_tck = true := by decide +kernel
theorem pm_gd4 : pm_g4.all pm_dck = true := by decide +kernel
theorem pm_gt5 : pm_g5.all pm_tck = true := by decide +kernel
theorem pm_gd5 : pm_g5.all pm_dck = true := by decide +kernel
theorem pm_gt6 : pm_g6.all pm_tck = true := by decide +kernel
theorem pm_gd6 : pm_g6.all pm_dck = true := by decide +kernel
theorem pm_gt7 : pm_g7.all pm_tck = true := by decide +kernel
theorem pm_gd7 : pm_g7.all pm_dck = true := by decide +kernel
