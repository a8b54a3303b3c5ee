/-! the methods of groups 8 on: their words, their instructions -/
theorem pm_gt8 : pm_g8.all pm_tck = true := by decide +kernel
theorem pm_gd8 : pm_g8.all pm_dck = true := by decide +kernel
theorem pm_gt9 : pm_g9.all pm_tck = true := by decide +kernel
theorem pm_gd9 : pm_g9.all pm_dck = true := by decide +kernel
theorem pm_gt10 : pm_g10.all pm_tck = true := by decide +kernel
theorem pm_gd10 : pm_g10.all pm_dck = true := by decide +kernel
theorem pm_tab_gt : pm_tab.all pm_tck = true := by
  unfold pm_tab
  simp only [List.all_append, Bool.and_true, pm_gt0, pm_gt1, pm_gt2, pm_gt3, pm_gt4, pm_gt5, pm_gt6, pm_gt7, pm_gt8, pm_gt9, pm_gt10]
theorem pm_tab_gd : pm_tab.all pm_dck = true := by
  unfold pm_tab
  simp only [List.all_append, Bool.and_true, pm_gd0, pm_gd1, pm_gd2, pm_gd3, pm_gd4, pm_gd5, pm_gd6, pm_gd7, pm_gd8, pm_gd9, pm_gd10]
