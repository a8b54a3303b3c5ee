/-! the methods of group 11: their words, their instructions -/
set_option maxRecDepth 100000 in
theorem pm_kk220 : Cond.code (pm_nm pm_mm220) (pm_by pm_mm220) (pm_ml pm_mm220) (pm_re pm_mm220) ∈ lw_tbl := List.mem_append_right _ (List.mem_append_right _ (List.mem_append_left _ (List.mem_of_getElem? (i := 68) rfl)))
set_option maxRecDepth 100000 in
theorem pm_kk221 : Cond.code (pm_nm pm_mm221) (pm_by pm_mm221) (pm_ml pm_mm221) (pm_re pm_mm221) ∈ lw_tbl := List.mem_append_right _ (List.mem_append_right _ (List.mem_append_left _ (List.mem_of_getElem? (i := 71) rfl)))
set_option maxRecDepth 100000 in
theorem pm_kk222 : Cond.code (pm_nm pm_mm222) (pm_by pm_mm222) (pm_ml pm_mm222) (pm_re pm_mm222) ∈ lw_tbl := List.mem_append_right _ (List.mem_append_right _ (List.mem_append_left _ (List.mem_of_getElem? (i := 78) rfl)))
set_option maxRecDepth 100000 in
theorem pm_kk223 : Cond.code (pm_nm pm_mm223) (pm_by pm_mm223) (pm_ml pm_mm223) (pm_re pm_mm223) ∈ lw_tbl := List.mem_append_right _ (List.mem_append_right _ (List.mem_append_right _ (List.mem_append_left _ (List.mem_of_getElem? (i := 12) rfl))))
set_option maxRecDepth 100000 in
theorem pm_kk224 : Cond.code (pm_nm pm_mm224) (pm_by pm_mm224) (pm_ml pm_mm224) (pm_re pm_mm224) ∈ lw_tbl := List.mem_append_right _ (List.mem_append_right _ (List.mem_append_right _ (List.mem_append_left _ (List.mem_of_getElem? (i := 15) rfl))))
set_option maxRecDepth 100000 in
theorem pm_kk225 : Cond.code (pm_nm pm_mm225) (pm_by pm_mm225) (pm_ml pm_mm225) (pm_re pm_mm225) ∈ lw_tbl := List.mem_append_right _ (List.mem_append_right _ (List.mem_append_right _ (List.mem_append_left _ (List.mem_of_getElem? (i := 18) rfl))))
set_option maxRecDepth 100000 in
theorem pm_kk226 : Cond.code (pm_nm pm_mm226) (pm_by pm_mm226) (pm_ml pm_mm226) (pm_re pm_mm226) ∈ lw_tbl := List.mem_append_right _ (List.mem_append_right _ (List.mem_append_right _ (List.mem_append_left _ (List.mem_of_getElem? (i := 21) rfl))))
theorem pm_gk11 : ∀ T ∈ pm_g11, pm_ps T ≠ 0 → Cond.code (pm_nm T) (pm_by T) (pm_ml T) (pm_re T) ∈ lw_tbl := List.forall_mem_cons.mpr ⟨fun _ => pm_kk220, List.forall_mem_cons.mpr ⟨fun _ => pm_kk221, List.forall_mem_cons.mpr ⟨fun _ => pm_kk222, List.forall_mem_cons.mpr ⟨fun _ => pm_kk223, List.forall_mem_cons.mpr ⟨fun _ => pm_kk224, List.forall_mem_cons.mpr ⟨fun _ => pm_kk225, List.forall_mem_cons.mpr ⟨fun _ => pm_kk226, fun _ h => absurd h List.not_mem_nil⟩⟩⟩⟩⟩⟩⟩
theorem pm_gt11 : pm_g11.all pm_tck = true := by decide +kernel
theorem pm_dm220 : pm_dck pm_mm220 = true := by decide +kernel
theorem pm_dm221 : pm_dck pm_mm221 = true := by decide +kernel
theorem pm_dm222 : pm_dck pm_mm222 = true := by decide +kernel
theorem pm_dm223 : pm_dck pm_mm223 = true := by decide +kernel
theorem pm_dm224 : pm_dck pm_mm224 = true := by decide +kernel
theorem pm_dm225 : pm_dck pm_mm225 = true := by decide +kernel
theorem pm_dm226 : pm_dck pm_mm226 = true := by decide +kernel
theorem pm_gd11 : pm_g11.all pm_dck = true := by
  unfold pm_g11
  simp only [List.all_cons, List.all_nil, Bool.and_true, pm_dm220, pm_dm221, pm_dm222, pm_dm223, pm_dm224, pm_dm225, pm_dm226]
