/-! all methods -/
theorem pm_tab_gt : pm_tab.all pm_tck = true := by
  unfold pm_tab
  simp only [List.all_append, Bool.and_true, pm_gt0, pm_gt1, pm_gt2, pm_gt3, pm_gt4, pm_gt5, pm_gt6, pm_gt7, pm_gt8, pm_gt9, pm_gt10, pm_gt11]
theorem pm_tab_gd : pm_tab.all pm_dck = true := by
  unfold pm_tab
  simp only [List.all_append, Bool.and_true, pm_gd0, pm_gd1, pm_gd2, pm_gd3, pm_gd4, pm_gd5, pm_gd6, pm_gd7, pm_gd8, pm_gd9, pm_gd10, pm_gd11]
theorem pm_tab_gk : ∀ T ∈ pm_tab, pm_ps T ≠ 0 → Cond.code (pm_nm T) (pm_by T) (pm_ml T) (pm_re T) ∈ pm_tb := fun T hT h => List.mem_filter.mpr ⟨(show ∀ T ∈ pm_tab, pm_ps T ≠ 0 → Cond.code (pm_nm T) (pm_by T) (pm_ml T) (pm_re T) ∈ lw_tbl from List.forall_mem_append.mpr ⟨pm_gk0, List.forall_mem_append.mpr ⟨pm_gk1, List.forall_mem_append.mpr ⟨pm_gk2, List.forall_mem_append.mpr ⟨pm_gk3, List.forall_mem_append.mpr ⟨pm_gk4, List.forall_mem_append.mpr ⟨pm_gk5, List.forall_mem_append.mpr ⟨pm_gk6, List.forall_mem_append.mpr ⟨pm_gk7, List.forall_mem_append.mpr ⟨pm_gk8, List.forall_mem_append.mpr ⟨pm_gk9, List.forall_mem_append.mpr ⟨pm_gk10, pm_gk11⟩⟩⟩⟩⟩⟩⟩⟩⟩⟩⟩) T hT h, rfl⟩
