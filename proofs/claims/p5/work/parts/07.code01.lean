/-! the methods of group 1: their words, their instructions -/
set_option maxRecDepth 100000 in
theorem pm_kk20 : Cond.code (pm_nm pm_mm20) (pm_by pm_mm20) (pm_ml pm_mm20) (pm_re pm_mm20) ∈ lw_tbl := List.mem_append_right _ (List.mem_append_right _ (List.mem_append_left _ (List.mem_of_getElem? (i := 23) rfl)))
set_option maxRecDepth 100000 in
theorem pm_kk21 : Cond.code (pm_nm pm_mm21) (pm_by pm_mm21) (pm_ml pm_mm21) (pm_re pm_mm21) ∈ lw_tbl := List.mem_append_right _ (List.mem_append_right _ (List.mem_append_left _ (List.mem_of_getElem? (i := 27) rfl)))
set_option maxRecDepth 100000 in
theorem pm_kk22 : Cond.code (pm_nm pm_mm22) (pm_by pm_mm22) (pm_ml pm_mm22) (pm_re pm_mm22) ∈ lw_tbl := List.mem_append_right _ (List.mem_append_right _ (List.mem_append_left _ (List.mem_of_getElem? (i := 31) rfl)))
set_option maxRecDepth 100000 in
theorem pm_kk23 : Cond.code (pm_nm pm_mm23) (pm_by pm_mm23) (pm_ml pm_mm23) (pm_re pm_mm23) ∈ lw_tbl := List.mem_append_right _ (List.mem_append_right _ (List.mem_append_left _ (List.mem_of_getElem? (i := 34) rfl)))
set_option maxRecDepth 100000 in
theorem pm_kk24 : Cond.code (pm_nm pm_mm24) (pm_by pm_mm24) (pm_ml pm_mm24) (pm_re pm_mm24) ∈ lw_tbl := List.mem_append_right _ (List.mem_append_right _ (List.mem_append_left _ (List.mem_of_getElem? (i := 38) rfl)))
set_option maxRecDepth 100000 in
theorem pm_kk25 : Cond.code (pm_nm pm_mm25) (pm_by pm_mm25) (pm_ml pm_mm25) (pm_re pm_mm25) ∈ lw_tbl := List.mem_append_right _ (List.mem_append_right _ (List.mem_append_left _ (List.mem_of_getElem? (i := 42) rfl)))
set_option maxRecDepth 100000 in
theorem pm_kk26 : Cond.code (pm_nm pm_mm26) (pm_by pm_mm26) (pm_ml pm_mm26) (pm_re pm_mm26) ∈ lw_tbl := List.mem_append_right _ (List.mem_append_right _ (List.mem_append_left _ (List.mem_of_getElem? (i := 131) rfl)))
set_option maxRecDepth 100000 in
theorem pm_kk27 : Cond.code (pm_nm pm_mm27) (pm_by pm_mm27) (pm_ml pm_mm27) (pm_re pm_mm27) ∈ lw_tbl := List.mem_append_right _ (List.mem_append_right _ (List.mem_append_left _ (List.mem_of_getElem? (i := 135) rfl)))
set_option maxRecDepth 100000 in
theorem pm_kk28 : Cond.code (pm_nm pm_mm28) (pm_by pm_mm28) (pm_ml pm_mm28) (pm_re pm_mm28) ∈ lw_tbl := List.mem_append_right _ (List.mem_append_right _ (List.mem_append_left _ (List.mem_of_getElem? (i := 139) rfl)))
set_option maxRecDepth 100000 in
theorem pm_kk29 : Cond.code (pm_nm pm_mm29) (pm_by pm_mm29) (pm_ml pm_mm29) (pm_re pm_mm29) ∈ lw_tbl := List.mem_append_right _ (List.mem_append_right _ (List.mem_append_left _ (List.mem_of_getElem? (i := 143) rfl)))
set_option maxRecDepth 100000 in
theorem pm_kk30 : Cond.code (pm_nm pm_mm30) (pm_by pm_mm30) (pm_ml pm_mm30) (pm_re pm_mm30) ∈ lw_tbl := List.mem_append_right _ (List.mem_append_right _ (List.mem_append_left _ (List.mem_of_getElem? (i := 147) rfl)))
set_option maxRecDepth 100000 in
theorem pm_kk31 : Cond.code (pm_nm pm_mm31) (pm_by pm_mm31) (pm_ml pm_mm31) (pm_re pm_mm31) ∈ lw_tbl := List.mem_append_right _ (List.mem_append_right _ (List.mem_append_left _ (List.mem_of_getElem? (i := 151) rfl)))
set_option maxRecDepth 100000 in
theorem pm_kk32 : Cond.code (pm_nm pm_mm32) (pm_by pm_mm32) (pm_ml pm_mm32) (pm_re pm_mm32) ∈ lw_tbl := List.mem_append_right _ (List.mem_append_right _ (List.mem_append_left _ (List.mem_of_getElem? (i := 155) rfl)))
set_option maxRecDepth 100000 in
theorem pm_kk33 : Cond.code (pm_nm pm_mm33) (pm_by pm_mm33) (pm_ml pm_mm33) (pm_re pm_mm33) ∈ lw_tbl := List.mem_append_right _ (List.mem_append_right _ (List.mem_append_left _ (List.mem_of_getElem? (i := 159) rfl)))
set_option maxRecDepth 100000 in
theorem pm_kk34 : Cond.code (pm_nm pm_mm34) (pm_by pm_mm34) (pm_ml pm_mm34) (pm_re pm_mm34) ∈ lw_tbl := List.mem_append_right _ (List.mem_append_right _ (List.mem_append_left _ (List.mem_of_getElem? (i := 163) rfl)))
set_option maxRecDepth 100000 in
theorem pm_kk35 : Cond.code (pm_nm pm_mm35) (pm_by pm_mm35) (pm_ml pm_mm35) (pm_re pm_mm35) ∈ lw_tbl := List.mem_append_right _ (List.mem_append_right _ (List.mem_append_left _ (List.mem_of_getElem? (i := 167) rfl)))
set_option maxRecDepth 100000 in
theorem pm_kk36 : Cond.code (pm_nm pm_mm36) (pm_by pm_mm36) (pm_ml pm_mm36) (pm_re pm_mm36) ∈ lw_tbl := List.mem_append_right _ (List.mem_append_right _ (List.mem_append_left _ (List.mem_of_getElem? (i := 171) rfl)))
set_option maxRecDepth 100000 in
theorem pm_kk37 : Cond.code (pm_nm pm_mm37) (pm_by pm_mm37) (pm_ml pm_mm37) (pm_re pm_mm37) ∈ lw_tbl := List.mem_append_right _ (List.mem_append_right _ (List.mem_append_left _ (List.mem_of_getElem? (i := 175) rfl)))
set_option maxRecDepth 100000 in
theorem pm_kk38 : Cond.code (pm_nm pm_mm38) (pm_by pm_mm38) (pm_ml pm_mm38) (pm_re pm_mm38) ∈ lw_tbl := List.mem_append_right _ (List.mem_append_right _ (List.mem_append_left _ (List.mem_of_getElem? (i := 179) rfl)))
set_option maxRecDepth 100000 in
theorem pm_kk39 : Cond.code (pm_nm pm_mm39) (pm_by pm_mm39) (pm_ml pm_mm39) (pm_re pm_mm39) ∈ lw_tbl := List.mem_append_right _ (List.mem_append_right _ (List.mem_append_left _ (List.mem_of_getElem? (i := 182) rfl)))
theorem pm_gk1 : ∀ T ∈ pm_g1, pm_ps T ≠ 0 → Cond.code (pm_nm T) (pm_by T) (pm_ml T) (pm_re T) ∈ lw_tbl := List.forall_mem_cons.mpr ⟨fun _ => pm_kk20, List.forall_mem_cons.mpr ⟨fun _ => pm_kk21, List.forall_mem_cons.mpr ⟨fun _ => pm_kk22, List.forall_mem_cons.mpr ⟨fun _ => pm_kk23, List.forall_mem_cons.mpr ⟨fun _ => pm_kk24, List.forall_mem_cons.mpr ⟨fun _ => pm_kk25, List.forall_mem_cons.mpr ⟨fun _ => pm_kk26, List.forall_mem_cons.mpr ⟨fun _ => pm_kk27, List.forall_mem_cons.mpr ⟨fun _ => pm_kk28, List.forall_mem_cons.mpr ⟨fun _ => pm_kk29, List.forall_mem_cons.mpr ⟨fun _ => pm_kk30, List.forall_mem_cons.mpr ⟨fun _ => pm_kk31, List.forall_mem_cons.mpr ⟨fun _ => pm_kk32, List.forall_mem_cons.mpr ⟨fun _ => pm_kk33, List.forall_mem_cons.mpr ⟨fun _ => pm_kk34, List.forall_mem_cons.mpr ⟨fun _ => pm_kk35, List.forall_mem_cons.mpr ⟨fun _ => pm_kk36, List.forall_mem_cons.mpr ⟨fun _ => pm_kk37, List.forall_mem_cons.mpr ⟨fun _ => pm_kk38, List.forall_mem_cons.mpr ⟨fun _ => pm_kk39, fun _ h => absurd h List.not_mem_nil⟩⟩⟩⟩⟩⟩⟩⟩⟩⟩⟩⟩⟩⟩⟩⟩⟩⟩⟩⟩
theorem pm_gt1 : pm_g1.all pm_tck = true := by decide +kernel
theorem pm_dm20 : pm_dck pm_mm20 = true := by decide +kernel
theorem pm_dm21 : pm_dck pm_mm21 = true := by decide +kernel
theorem pm_dm22 : pm_dck pm_mm22 = true := by decide +kernel
theorem pm_dm23 : pm_dck pm_mm23 = true := by decide +kernel
theorem pm_dm24 : pm_dck pm_mm24 = true := by decide +kernel
theorem pm_dm25 : pm_dck pm_mm25 = true := by decide +kernel
theorem pm_dm26 : pm_dck pm_mm26 = true := by decide +kernel
theorem pm_dm27 : pm_dck pm_mm27 = true := by decide +kernel
theorem pm_dm28 : pm_dck pm_mm28 = true := by decide +kernel
theorem pm_dm29 : pm_dck pm_mm29 = true := by decide +kernel
theorem pm_dm30 : pm_dck pm_mm30 = true := by decide +kernel
theorem pm_dm31 : pm_dck pm_mm31 = true := by decide +kernel
theorem pm_dm32 : pm_dck pm_mm32 = true := by decide +kernel
theorem pm_dm33 : pm_dck pm_mm33 = true := by decide +kernel
theorem pm_dm34 : pm_dck pm_mm34 = true := by decide +kernel
theorem pm_dm35 : pm_dck pm_mm35 = true := by decide +kernel
theorem pm_dm36 : pm_dck pm_mm36 = true := by decide +kernel
theorem pm_dm37 : pm_dck pm_mm37 = true := by decide +kernel
theorem pm_dm38 : pm_dck pm_mm38 = true := by decide +kernel
theorem pm_dm39 : pm_dck pm_mm39 = true := by decide +kernel
theorem pm_gd1 : pm_g1.all pm_dck = true := by
  unfold pm_g1
  simp only [List.all_cons, List.all_nil, Bool.and_true, pm_dm20, pm_dm21, pm_dm22, pm_dm23, pm_dm24, pm_dm25, pm_dm26, pm_dm27, pm_dm28, pm_dm29, pm_dm30, pm_dm31, pm_dm32, pm_dm33, pm_dm34, pm_dm35, pm_dm36, pm_dm37, pm_dm38, pm_dm39]
