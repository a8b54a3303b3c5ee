/-! the methods of group 4: their words, their instructions -/
set_option maxRecDepth 100000 in
theorem pm_kk80 : Cond.code (pm_nm pm_mm80) (pm_by pm_mm80) (pm_ml pm_mm80) (pm_re pm_mm80) ∈ lw_tbl := List.mem_append_right _ (List.mem_append_right _ (List.mem_append_right _ (List.mem_append_left _ (List.mem_of_getElem? (i := 138) rfl))))
set_option maxRecDepth 100000 in
theorem pm_kk81 : Cond.code (pm_nm pm_mm81) (pm_by pm_mm81) (pm_ml pm_mm81) (pm_re pm_mm81) ∈ lw_tbl := List.mem_append_right _ (List.mem_append_right _ (List.mem_append_right _ (List.mem_append_left _ (List.mem_of_getElem? (i := 142) rfl))))
set_option maxRecDepth 100000 in
theorem pm_kk82 : Cond.code (pm_nm pm_mm82) (pm_by pm_mm82) (pm_ml pm_mm82) (pm_re pm_mm82) ∈ lw_tbl := List.mem_append_right _ (List.mem_append_right _ (List.mem_append_right _ (List.mem_append_left _ (List.mem_of_getElem? (i := 147) rfl))))
set_option maxRecDepth 100000 in
theorem pm_kk83 : Cond.code (pm_nm pm_mm83) (pm_by pm_mm83) (pm_ml pm_mm83) (pm_re pm_mm83) ∈ lw_tbl := List.mem_append_right _ (List.mem_append_right _ (List.mem_append_right _ (List.mem_append_left _ (List.mem_of_getElem? (i := 151) rfl))))
set_option maxRecDepth 100000 in
theorem pm_kk84 : Cond.code (pm_nm pm_mm84) (pm_by pm_mm84) (pm_ml pm_mm84) (pm_re pm_mm84) ∈ lw_tbl := List.mem_append_right _ (List.mem_append_right _ (List.mem_append_right _ (List.mem_append_left _ (List.mem_of_getElem? (i := 156) rfl))))
set_option maxRecDepth 100000 in
theorem pm_kk85 : Cond.code (pm_nm pm_mm85) (pm_by pm_mm85) (pm_ml pm_mm85) (pm_re pm_mm85) ∈ lw_tbl := List.mem_append_right _ (List.mem_append_right _ (List.mem_append_right _ (List.mem_append_left _ (List.mem_of_getElem? (i := 161) rfl))))
set_option maxRecDepth 100000 in
theorem pm_kk86 : Cond.code (pm_nm pm_mm86) (pm_by pm_mm86) (pm_ml pm_mm86) (pm_re pm_mm86) ∈ lw_tbl := List.mem_append_right _ (List.mem_append_right _ (List.mem_append_right _ (List.mem_append_left _ (List.mem_of_getElem? (i := 165) rfl))))
set_option maxRecDepth 100000 in
theorem pm_kk87 : Cond.code (pm_nm pm_mm87) (pm_by pm_mm87) (pm_ml pm_mm87) (pm_re pm_mm87) ∈ lw_tbl := List.mem_append_right _ (List.mem_append_right _ (List.mem_append_right _ (List.mem_append_left _ (List.mem_of_getElem? (i := 169) rfl))))
set_option maxRecDepth 100000 in
theorem pm_kk88 : Cond.code (pm_nm pm_mm88) (pm_by pm_mm88) (pm_ml pm_mm88) (pm_re pm_mm88) ∈ lw_tbl := List.mem_append_right _ (List.mem_append_right _ (List.mem_append_right _ (List.mem_append_left _ (List.mem_of_getElem? (i := 172) rfl))))
set_option maxRecDepth 100000 in
theorem pm_kk89 : Cond.code (pm_nm pm_mm89) (pm_by pm_mm89) (pm_ml pm_mm89) (pm_re pm_mm89) ∈ lw_tbl := List.mem_append_right _ (List.mem_append_right _ (List.mem_append_right _ (List.mem_append_left _ (List.mem_of_getElem? (i := 177) rfl))))
set_option maxRecDepth 100000 in
theorem pm_kk90 : Cond.code (pm_nm pm_mm90) (pm_by pm_mm90) (pm_ml pm_mm90) (pm_re pm_mm90) ∈ lw_tbl := List.mem_append_right _ (List.mem_append_right _ (List.mem_append_right _ (List.mem_append_left _ (List.mem_of_getElem? (i := 181) rfl))))
set_option maxRecDepth 100000 in
theorem pm_kk91 : Cond.code (pm_nm pm_mm91) (pm_by pm_mm91) (pm_ml pm_mm91) (pm_re pm_mm91) ∈ lw_tbl := List.mem_append_right _ (List.mem_append_right _ (List.mem_append_right _ (List.mem_append_left _ (List.mem_of_getElem? (i := 186) rfl))))
set_option maxRecDepth 100000 in
theorem pm_kk92 : Cond.code (pm_nm pm_mm92) (pm_by pm_mm92) (pm_ml pm_mm92) (pm_re pm_mm92) ∈ lw_tbl := List.mem_append_right _ (List.mem_append_right _ (List.mem_append_right _ (List.mem_append_left _ (List.mem_of_getElem? (i := 190) rfl))))
set_option maxRecDepth 100000 in
theorem pm_kk93 : Cond.code (pm_nm pm_mm93) (pm_by pm_mm93) (pm_ml pm_mm93) (pm_re pm_mm93) ∈ lw_tbl := List.mem_append_right _ (List.mem_append_right _ (List.mem_append_right _ (List.mem_append_left _ (List.mem_of_getElem? (i := 194) rfl))))
set_option maxRecDepth 100000 in
theorem pm_kk94 : Cond.code (pm_nm pm_mm94) (pm_by pm_mm94) (pm_ml pm_mm94) (pm_re pm_mm94) ∈ lw_tbl := List.mem_append_right _ (List.mem_append_right _ (List.mem_append_right _ (List.mem_append_left _ (List.mem_of_getElem? (i := 199) rfl))))
set_option maxRecDepth 100000 in
theorem pm_kk95 : Cond.code (pm_nm pm_mm95) (pm_by pm_mm95) (pm_ml pm_mm95) (pm_re pm_mm95) ∈ lw_tbl := List.mem_append_right _ (List.mem_append_right _ (List.mem_append_right _ (List.mem_append_left _ (List.mem_of_getElem? (i := 225) rfl))))
set_option maxRecDepth 100000 in
theorem pm_kk96 : Cond.code (pm_nm pm_mm96) (pm_by pm_mm96) (pm_ml pm_mm96) (pm_re pm_mm96) ∈ lw_tbl := List.mem_append_right _ (List.mem_append_right _ (List.mem_append_right _ (List.mem_append_left _ (List.mem_of_getElem? (i := 230) rfl))))
set_option maxRecDepth 100000 in
theorem pm_kk97 : Cond.code (pm_nm pm_mm97) (pm_by pm_mm97) (pm_ml pm_mm97) (pm_re pm_mm97) ∈ lw_tbl := List.mem_append_right _ (List.mem_append_right _ (List.mem_append_right _ (List.mem_append_left _ (List.mem_of_getElem? (i := 234) rfl))))
set_option maxRecDepth 100000 in
theorem pm_kk98 : Cond.code (pm_nm pm_mm98) (pm_by pm_mm98) (pm_ml pm_mm98) (pm_re pm_mm98) ∈ lw_tbl := List.mem_append_right _ (List.mem_append_right _ (List.mem_append_right _ (List.mem_append_left _ (List.mem_of_getElem? (i := 239) rfl))))
set_option maxRecDepth 100000 in
theorem pm_kk99 : Cond.code (pm_nm pm_mm99) (pm_by pm_mm99) (pm_ml pm_mm99) (pm_re pm_mm99) ∈ lw_tbl := List.mem_append_right _ (List.mem_append_right _ (List.mem_append_right _ (List.mem_append_right _ (List.mem_append_left _ (List.mem_of_getElem? (i := 5) rfl)))))
theorem pm_gk4 : ∀ T ∈ pm_g4, pm_ps T ≠ 0 → Cond.code (pm_nm T) (pm_by T) (pm_ml T) (pm_re T) ∈ lw_tbl := List.forall_mem_cons.mpr ⟨fun _ => pm_kk80, List.forall_mem_cons.mpr ⟨fun _ => pm_kk81, List.forall_mem_cons.mpr ⟨fun _ => pm_kk82, List.forall_mem_cons.mpr ⟨fun _ => pm_kk83, List.forall_mem_cons.mpr ⟨fun _ => pm_kk84, List.forall_mem_cons.mpr ⟨fun _ => pm_kk85, List.forall_mem_cons.mpr ⟨fun _ => pm_kk86, List.forall_mem_cons.mpr ⟨fun _ => pm_kk87, List.forall_mem_cons.mpr ⟨fun _ => pm_kk88, List.forall_mem_cons.mpr ⟨fun _ => pm_kk89, List.forall_mem_cons.mpr ⟨fun _ => pm_kk90, List.forall_mem_cons.mpr ⟨fun _ => pm_kk91, List.forall_mem_cons.mpr ⟨fun _ => pm_kk92, List.forall_mem_cons.mpr ⟨fun _ => pm_kk93, List.forall_mem_cons.mpr ⟨fun _ => pm_kk94, List.forall_mem_cons.mpr ⟨fun _ => pm_kk95, List.forall_mem_cons.mpr ⟨fun _ => pm_kk96, List.forall_mem_cons.mpr ⟨fun _ => pm_kk97, List.forall_mem_cons.mpr ⟨fun _ => pm_kk98, List.forall_mem_cons.mpr ⟨fun _ => pm_kk99, fun _ h => absurd h List.not_mem_nil⟩⟩⟩⟩⟩⟩⟩⟩⟩⟩⟩⟩⟩⟩⟩⟩⟩⟩⟩⟩
theorem pm_gt4 : pm_g4.all pm_tck = true := by decide +kernel
theorem pm_dm80 : pm_dck pm_mm80 = true := by decide +kernel
theorem pm_dm81 : pm_dck pm_mm81 = true := by decide +kernel
theorem pm_dm82 : pm_dck pm_mm82 = true := by decide +kernel
theorem pm_dm83 : pm_dck pm_mm83 = true := by decide +kernel
theorem pm_dm84 : pm_dck pm_mm84 = true := by decide +kernel
theorem pm_dm85 : pm_dck pm_mm85 = true := by decide +kernel
theorem pm_dm86 : pm_dck pm_mm86 = true := by decide +kernel
theorem pm_dm87 : pm_dck pm_mm87 = true := by decide +kernel
theorem pm_dm88 : pm_dck pm_mm88 = true := by decide +kernel
theorem pm_dm89 : pm_dck pm_mm89 = true := by decide +kernel
theorem pm_dm90 : pm_dck pm_mm90 = true := by decide +kernel
theorem pm_dm91 : pm_dck pm_mm91 = true := by decide +kernel
theorem pm_dm92 : pm_dck pm_mm92 = true := by decide +kernel
theorem pm_dm93 : pm_dck pm_mm93 = true := by decide +kernel
theorem pm_dm94 : pm_dck pm_mm94 = true := by decide +kernel
theorem pm_dm95 : pm_dck pm_mm95 = true := by decide +kernel
theorem pm_dm96 : pm_dck pm_mm96 = true := by decide +kernel
theorem pm_dm97 : pm_dck pm_mm97 = true := by decide +kernel
theorem pm_dm98 : pm_dck pm_mm98 = true := by decide +kernel
theorem pm_dm99 : pm_dck pm_mm99 = true := by decide +kernel
theorem pm_gd4 : pm_g4.all pm_dck = true := by
  unfold pm_g4
  simp only [List.all_cons, List.all_nil, Bool.and_true, pm_dm80, pm_dm81, pm_dm82, pm_dm83, pm_dm84, pm_dm85, pm_dm86, pm_dm87, pm_dm88, pm_dm89, pm_dm90, pm_dm91, pm_dm92, pm_dm93, pm_dm94, pm_dm95, pm_dm96, pm_dm97, pm_dm98, pm_dm99]
