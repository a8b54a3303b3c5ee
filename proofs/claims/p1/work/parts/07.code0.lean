/-! the methods of groups 0 on: their words, their instructions -/
theorem pm_gt0 : pm_g0.all pm_tck = true := by decide +kernel
theorem pm_gd0 : pm_g0.all pm_dck = true := by decide +kernel
theorem pm_gt1 : pm_g1.all pm_tck = true := by decide +kernel
theorem pm_gd1 : pm_g1.all pm_dck = true := by decide +kernel
theorem pm_gt2 : pm_g2.all pm_tck = true := by decide +kernel
theorem pm_gd2 : pm_g2.all pm_dck = true := by decide +kernel
theorem pm_gt3 : pm_g3.all pm_tck = true := by decide +kernel
theorem pm_gd3 : pm_g3.all pm_dck = true := by decide +kernel
