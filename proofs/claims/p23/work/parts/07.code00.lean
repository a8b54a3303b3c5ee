/-! the methods of group 0: their words, their instructions -/
set_option maxRecDepth 100000 in
theorem pm_kk1 : Cond.code (pm_nm pm_mm1) (pm_by pm_mm1) (pm_ml pm_mm1) (pm_re pm_mm1) ∈ lw_tbl := List.mem_append_right _ (List.mem_append_left _ (List.mem_of_getElem? (i := 22) rfl))
set_option maxRecDepth 100000 in
theorem pm_kk2 : Cond.code (pm_nm pm_mm2) (pm_by pm_mm2) (pm_ml pm_mm2) (pm_re pm_mm2) ∈ lw_tbl := List.mem_append_right _ (List.mem_append_left _ (List.mem_of_getElem? (i := 30) rfl))
set_option maxRecDepth 100000 in
theorem pm_kk3 : Cond.code (pm_nm pm_mm3) (pm_by pm_mm3) (pm_ml pm_mm3) (pm_re pm_mm3) ∈ lw_tbl := List.mem_append_right _ (List.mem_append_left _ (List.mem_of_getElem? (i := 47) rfl))
set_option maxRecDepth 100000 in
theorem pm_kk4 : Cond.code (pm_nm pm_mm4) (pm_by pm_mm4) (pm_ml pm_mm4) (pm_re pm_mm4) ∈ lw_tbl := List.mem_append_right _ (List.mem_append_left _ (List.mem_of_getElem? (i := 77) rfl))
set_option maxRecDepth 100000 in
theorem pm_kk5 : Cond.code (pm_nm pm_mm5) (pm_by pm_mm5) (pm_ml pm_mm5) (pm_re pm_mm5) ∈ lw_tbl := List.mem_append_right _ (List.mem_append_left _ (List.mem_of_getElem? (i := 90) rfl))
set_option maxRecDepth 100000 in
theorem pm_kk6 : Cond.code (pm_nm pm_mm6) (pm_by pm_mm6) (pm_ml pm_mm6) (pm_re pm_mm6) ∈ lw_tbl := List.mem_append_right _ (List.mem_append_left _ (List.mem_of_getElem? (i := 137) rfl))
set_option maxRecDepth 100000 in
theorem pm_kk7 : Cond.code (pm_nm pm_mm7) (pm_by pm_mm7) (pm_ml pm_mm7) (pm_re pm_mm7) ∈ lw_tbl := List.mem_append_right _ (List.mem_append_left _ (List.mem_of_getElem? (i := 162) rfl))
set_option maxRecDepth 100000 in
theorem pm_kk8 : Cond.code (pm_nm pm_mm8) (pm_by pm_mm8) (pm_ml pm_mm8) (pm_re pm_mm8) ∈ lw_tbl := List.mem_append_right _ (List.mem_append_left _ (List.mem_of_getElem? (i := 216) rfl))
set_option maxRecDepth 100000 in
theorem pm_kk9 : Cond.code (pm_nm pm_mm9) (pm_by pm_mm9) (pm_ml pm_mm9) (pm_re pm_mm9) ∈ lw_tbl := List.mem_append_right _ (List.mem_append_left _ (List.mem_of_getElem? (i := 220) rfl))
set_option maxRecDepth 100000 in
theorem pm_kk10 : Cond.code (pm_nm pm_mm10) (pm_by pm_mm10) (pm_ml pm_mm10) (pm_re pm_mm10) ∈ lw_tbl := List.mem_append_right _ (List.mem_append_left _ (List.mem_of_getElem? (i := 224) rfl))
set_option maxRecDepth 100000 in
theorem pm_kk11 : Cond.code (pm_nm pm_mm11) (pm_by pm_mm11) (pm_ml pm_mm11) (pm_re pm_mm11) ∈ lw_tbl := List.mem_append_right _ (List.mem_append_left _ (List.mem_of_getElem? (i := 228) rfl))
set_option maxRecDepth 100000 in
theorem pm_kk12 : Cond.code (pm_nm pm_mm12) (pm_by pm_mm12) (pm_ml pm_mm12) (pm_re pm_mm12) ∈ lw_tbl := List.mem_append_right _ (List.mem_append_left _ (List.mem_of_getElem? (i := 232) rfl))
set_option maxRecDepth 100000 in
theorem pm_kk13 : Cond.code (pm_nm pm_mm13) (pm_by pm_mm13) (pm_ml pm_mm13) (pm_re pm_mm13) ∈ lw_tbl := List.mem_append_right _ (List.mem_append_left _ (List.mem_of_getElem? (i := 236) rfl))
set_option maxRecDepth 100000 in
theorem pm_kk14 : Cond.code (pm_nm pm_mm14) (pm_by pm_mm14) (pm_ml pm_mm14) (pm_re pm_mm14) ∈ lw_tbl := List.mem_append_right _ (List.mem_append_right _ (List.mem_append_left _ (List.mem_of_getElem? (i := 0) rfl)))
set_option maxRecDepth 100000 in
theorem pm_kk15 : Cond.code (pm_nm pm_mm15) (pm_by pm_mm15) (pm_ml pm_mm15) (pm_re pm_mm15) ∈ lw_tbl := List.mem_append_right _ (List.mem_append_right _ (List.mem_append_left _ (List.mem_of_getElem? (i := 4) rfl)))
set_option maxRecDepth 100000 in
theorem pm_kk16 : Cond.code (pm_nm pm_mm16) (pm_by pm_mm16) (pm_ml pm_mm16) (pm_re pm_mm16) ∈ lw_tbl := List.mem_append_right _ (List.mem_append_right _ (List.mem_append_left _ (List.mem_of_getElem? (i := 8) rfl)))
set_option maxRecDepth 100000 in
theorem pm_kk17 : Cond.code (pm_nm pm_mm17) (pm_by pm_mm17) (pm_ml pm_mm17) (pm_re pm_mm17) ∈ lw_tbl := List.mem_append_right _ (List.mem_append_right _ (List.mem_append_left _ (List.mem_of_getElem? (i := 12) rfl)))
set_option maxRecDepth 100000 in
theorem pm_kk18 : Cond.code (pm_nm pm_mm18) (pm_by pm_mm18) (pm_ml pm_mm18) (pm_re pm_mm18) ∈ lw_tbl := List.mem_append_right _ (List.mem_append_right _ (List.mem_append_left _ (List.mem_of_getElem? (i := 16) rfl)))
set_option maxRecDepth 100000 in
theorem pm_kk19 : Cond.code (pm_nm pm_mm19) (pm_by pm_mm19) (pm_ml pm_mm19) (pm_re pm_mm19) ∈ lw_tbl := List.mem_append_right _ (List.mem_append_right _ (List.mem_append_left _ (List.mem_of_getElem? (i := 20) rfl)))
theorem pm_gk0 : ∀ T ∈ pm_g0, pm_ps T ≠ 0 → Cond.code (pm_nm T) (pm_by T) (pm_ml T) (pm_re T) ∈ lw_tbl := List.forall_mem_cons.mpr ⟨fun h => absurd rfl h, List.forall_mem_cons.mpr ⟨fun _ => pm_kk1, List.forall_mem_cons.mpr ⟨fun _ => pm_kk2, List.forall_mem_cons.mpr ⟨fun _ => pm_kk3, List.forall_mem_cons.mpr ⟨fun _ => pm_kk4, List.forall_mem_cons.mpr ⟨fun _ => pm_kk5, List.forall_mem_cons.mpr ⟨fun _ => pm_kk6, List.forall_mem_cons.mpr ⟨fun _ => pm_kk7, List.forall_mem_cons.mpr ⟨fun _ => pm_kk8, List.forall_mem_cons.mpr ⟨fun _ => pm_kk9, List.forall_mem_cons.mpr ⟨fun _ => pm_kk10, List.forall_mem_cons.mpr ⟨fun _ => pm_kk11, List.forall_mem_cons.mpr ⟨fun _ => pm_kk12, List.forall_mem_cons.mpr ⟨fun _ => pm_kk13, List.forall_mem_cons.mpr ⟨fun _ => pm_kk14, List.forall_mem_cons.mpr ⟨fun _ => pm_kk15, List.forall_mem_cons.mpr ⟨fun _ => pm_kk16, List.forall_mem_cons.mpr ⟨fun _ => pm_kk17, List.forall_mem_cons.mpr ⟨fun _ => pm_kk18, List.forall_mem_cons.mpr ⟨fun _ => pm_kk19, fun _ h => absurd h List.not_mem_nil⟩⟩⟩⟩⟩⟩⟩⟩⟩⟩⟩⟩⟩⟩⟩⟩⟩⟩⟩⟩
theorem pm_gt0 : pm_g0.all pm_tck = true := by decide +kernel
theorem pm_gd0 : pm_g0.all pm_dck = true := by decide +kernel
