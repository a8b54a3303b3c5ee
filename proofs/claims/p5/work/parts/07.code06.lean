/-! the methods of group 6: their words, their instructions -/
set_option maxRecDepth 100000 in
theorem pm_kk120 : Cond.code (pm_nm pm_mm120) (pm_by pm_mm120) (pm_ml pm_mm120) (pm_re pm_mm120) ∈ lw_tbl := List.mem_append_right _ (List.mem_append_right _ (List.mem_append_right _ (List.mem_append_right _ (List.mem_append_left _ (List.mem_of_getElem? (i := 137) rfl)))))
set_option maxRecDepth 100000 in
theorem pm_kk121 : Cond.code (pm_nm pm_mm121) (pm_by pm_mm121) (pm_ml pm_mm121) (pm_re pm_mm121) ∈ lw_tbl := List.mem_append_right _ (List.mem_append_right _ (List.mem_append_right _ (List.mem_append_right _ (List.mem_append_left _ (List.mem_of_getElem? (i := 141) rfl)))))
set_option maxRecDepth 100000 in
theorem pm_kk122 : Cond.code (pm_nm pm_mm122) (pm_by pm_mm122) (pm_ml pm_mm122) (pm_re pm_mm122) ∈ lw_tbl := List.mem_append_right _ (List.mem_append_right _ (List.mem_append_right _ (List.mem_append_right _ (List.mem_append_left _ (List.mem_of_getElem? (i := 145) rfl)))))
set_option maxRecDepth 100000 in
theorem pm_kk123 : Cond.code (pm_nm pm_mm123) (pm_by pm_mm123) (pm_ml pm_mm123) (pm_re pm_mm123) ∈ lw_tbl := List.mem_append_right _ (List.mem_append_right _ (List.mem_append_right _ (List.mem_append_right _ (List.mem_append_left _ (List.mem_of_getElem? (i := 148) rfl)))))
set_option maxRecDepth 100000 in
theorem pm_kk124 : Cond.code (pm_nm pm_mm124) (pm_by pm_mm124) (pm_ml pm_mm124) (pm_re pm_mm124) ∈ lw_tbl := List.mem_append_right _ (List.mem_append_right _ (List.mem_append_right _ (List.mem_append_right _ (List.mem_append_left _ (List.mem_of_getElem? (i := 152) rfl)))))
set_option maxRecDepth 100000 in
theorem pm_kk125 : Cond.code (pm_nm pm_mm125) (pm_by pm_mm125) (pm_ml pm_mm125) (pm_re pm_mm125) ∈ lw_tbl := List.mem_append_right _ (List.mem_append_right _ (List.mem_append_right _ (List.mem_append_right _ (List.mem_append_left _ (List.mem_of_getElem? (i := 156) rfl)))))
set_option maxRecDepth 100000 in
theorem pm_kk126 : Cond.code (pm_nm pm_mm126) (pm_by pm_mm126) (pm_ml pm_mm126) (pm_re pm_mm126) ∈ lw_tbl := List.mem_append_right _ (List.mem_append_right _ (List.mem_append_right _ (List.mem_append_right _ (List.mem_append_left _ (List.mem_of_getElem? (i := 161) rfl)))))
set_option maxRecDepth 100000 in
theorem pm_kk127 : Cond.code (pm_nm pm_mm127) (pm_by pm_mm127) (pm_ml pm_mm127) (pm_re pm_mm127) ∈ lw_tbl := List.mem_append_right _ (List.mem_append_right _ (List.mem_append_right _ (List.mem_append_right _ (List.mem_append_left _ (List.mem_of_getElem? (i := 165) rfl)))))
set_option maxRecDepth 100000 in
theorem pm_kk128 : Cond.code (pm_nm pm_mm128) (pm_by pm_mm128) (pm_ml pm_mm128) (pm_re pm_mm128) ∈ lw_tbl := List.mem_append_right _ (List.mem_append_right _ (List.mem_append_right _ (List.mem_append_right _ (List.mem_append_left _ (List.mem_of_getElem? (i := 169) rfl)))))
set_option maxRecDepth 100000 in
theorem pm_kk129 : Cond.code (pm_nm pm_mm129) (pm_by pm_mm129) (pm_ml pm_mm129) (pm_re pm_mm129) ∈ lw_tbl := List.mem_append_right _ (List.mem_append_right _ (List.mem_append_right _ (List.mem_append_right _ (List.mem_append_left _ (List.mem_of_getElem? (i := 173) rfl)))))
set_option maxRecDepth 100000 in
theorem pm_kk130 : Cond.code (pm_nm pm_mm130) (pm_by pm_mm130) (pm_ml pm_mm130) (pm_re pm_mm130) ∈ lw_tbl := List.mem_append_right _ (List.mem_append_right _ (List.mem_append_right _ (List.mem_append_right _ (List.mem_append_left _ (List.mem_of_getElem? (i := 177) rfl)))))
set_option maxRecDepth 100000 in
theorem pm_kk131 : Cond.code (pm_nm pm_mm131) (pm_by pm_mm131) (pm_ml pm_mm131) (pm_re pm_mm131) ∈ lw_tbl := List.mem_append_right _ (List.mem_append_right _ (List.mem_append_right _ (List.mem_append_right _ (List.mem_append_left _ (List.mem_of_getElem? (i := 181) rfl)))))
set_option maxRecDepth 100000 in
theorem pm_kk132 : Cond.code (pm_nm pm_mm132) (pm_by pm_mm132) (pm_ml pm_mm132) (pm_re pm_mm132) ∈ lw_tbl := List.mem_append_right _ (List.mem_append_right _ (List.mem_append_right _ (List.mem_append_right _ (List.mem_append_left _ (List.mem_of_getElem? (i := 185) rfl)))))
set_option maxRecDepth 100000 in
theorem pm_kk133 : Cond.code (pm_nm pm_mm133) (pm_by pm_mm133) (pm_ml pm_mm133) (pm_re pm_mm133) ∈ lw_tbl := List.mem_append_right _ (List.mem_append_right _ (List.mem_append_right _ (List.mem_append_right _ (List.mem_append_left _ (List.mem_of_getElem? (i := 189) rfl)))))
set_option maxRecDepth 100000 in
theorem pm_kk134 : Cond.code (pm_nm pm_mm134) (pm_by pm_mm134) (pm_ml pm_mm134) (pm_re pm_mm134) ∈ lw_tbl := List.mem_append_right _ (List.mem_append_right _ (List.mem_append_right _ (List.mem_append_right _ (List.mem_append_left _ (List.mem_of_getElem? (i := 193) rfl)))))
set_option maxRecDepth 100000 in
theorem pm_kk135 : Cond.code (pm_nm pm_mm135) (pm_by pm_mm135) (pm_ml pm_mm135) (pm_re pm_mm135) ∈ lw_tbl := List.mem_append_right _ (List.mem_append_right _ (List.mem_append_right _ (List.mem_append_right _ (List.mem_append_left _ (List.mem_of_getElem? (i := 197) rfl)))))
set_option maxRecDepth 100000 in
theorem pm_kk136 : Cond.code (pm_nm pm_mm136) (pm_by pm_mm136) (pm_ml pm_mm136) (pm_re pm_mm136) ∈ lw_tbl := List.mem_append_right _ (List.mem_append_right _ (List.mem_append_right _ (List.mem_append_right _ (List.mem_append_left _ (List.mem_of_getElem? (i := 204) rfl)))))
set_option maxRecDepth 100000 in
theorem pm_kk137 : Cond.code (pm_nm pm_mm137) (pm_by pm_mm137) (pm_ml pm_mm137) (pm_re pm_mm137) ∈ lw_tbl := List.mem_append_right _ (List.mem_append_right _ (List.mem_append_right _ (List.mem_append_right _ (List.mem_append_left _ (List.mem_of_getElem? (i := 208) rfl)))))
set_option maxRecDepth 100000 in
theorem pm_kk138 : Cond.code (pm_nm pm_mm138) (pm_by pm_mm138) (pm_ml pm_mm138) (pm_re pm_mm138) ∈ lw_tbl := List.mem_append_right _ (List.mem_append_right _ (List.mem_append_right _ (List.mem_append_right _ (List.mem_append_left _ (List.mem_of_getElem? (i := 212) rfl)))))
set_option maxRecDepth 100000 in
theorem pm_kk139 : Cond.code (pm_nm pm_mm139) (pm_by pm_mm139) (pm_ml pm_mm139) (pm_re pm_mm139) ∈ lw_tbl := List.mem_append_right _ (List.mem_append_right _ (List.mem_append_right _ (List.mem_append_right _ (List.mem_append_left _ (List.mem_of_getElem? (i := 217) rfl)))))
theorem pm_gk6 : ∀ T ∈ pm_g6, pm_ps T ≠ 0 → Cond.code (pm_nm T) (pm_by T) (pm_ml T) (pm_re T) ∈ lw_tbl := List.forall_mem_cons.mpr ⟨fun _ => pm_kk120, List.forall_mem_cons.mpr ⟨fun _ => pm_kk121, List.forall_mem_cons.mpr ⟨fun _ => pm_kk122, List.forall_mem_cons.mpr ⟨fun _ => pm_kk123, List.forall_mem_cons.mpr ⟨fun _ => pm_kk124, List.forall_mem_cons.mpr ⟨fun _ => pm_kk125, List.forall_mem_cons.mpr ⟨fun _ => pm_kk126, List.forall_mem_cons.mpr ⟨fun _ => pm_kk127, List.forall_mem_cons.mpr ⟨fun _ => pm_kk128, List.forall_mem_cons.mpr ⟨fun _ => pm_kk129, List.forall_mem_cons.mpr ⟨fun _ => pm_kk130, List.forall_mem_cons.mpr ⟨fun _ => pm_kk131, List.forall_mem_cons.mpr ⟨fun _ => pm_kk132, List.forall_mem_cons.mpr ⟨fun _ => pm_kk133, List.forall_mem_cons.mpr ⟨fun _ => pm_kk134, List.forall_mem_cons.mpr ⟨fun _ => pm_kk135, List.forall_mem_cons.mpr ⟨fun _ => pm_kk136, List.forall_mem_cons.mpr ⟨fun _ => pm_kk137, List.forall_mem_cons.mpr ⟨fun _ => pm_kk138, List.forall_mem_cons.mpr ⟨fun _ => pm_kk139, fun _ h => absurd h List.not_mem_nil⟩⟩⟩⟩⟩⟩⟩⟩⟩⟩⟩⟩⟩⟩⟩⟩⟩⟩⟩⟩
theorem pm_gt6 : pm_g6.all pm_tck = true := by decide +kernel
theorem pm_dm120 : pm_dck pm_mm120 = true := by decide +kernel
theorem pm_dm121 : pm_dck pm_mm121 = true := by decide +kernel
theorem pm_dm122 : pm_dck pm_mm122 = true := by decide +kernel
theorem pm_dm123 : pm_dck pm_mm123 = true := by decide +kernel
theorem pm_dm124 : pm_dck pm_mm124 = true := by decide +kernel
theorem pm_dm125 : pm_dck pm_mm125 = true := by decide +kernel
theorem pm_dm126 : pm_dck pm_mm126 = true := by decide +kernel
theorem pm_dm127 : pm_dck pm_mm127 = true := by decide +kernel
theorem pm_dm128 : pm_dck pm_mm128 = true := by decide +kernel
theorem pm_dm129 : pm_dck pm_mm129 = true := by decide +kernel
theorem pm_dm130 : pm_dck pm_mm130 = true := by decide +kernel
theorem pm_dm131 : pm_dck pm_mm131 = true := by decide +kernel
theorem pm_dm132 : pm_dck pm_mm132 = true := by decide +kernel
theorem pm_dm133 : pm_dck pm_mm133 = true := by decide +kernel
theorem pm_dm134 : pm_dck pm_mm134 = true := by decide +kernel
theorem pm_dm135 : pm_dck pm_mm135 = true := by decide +kernel
theorem pm_dm136 : pm_dck pm_mm136 = true := by decide +kernel
theorem pm_dm137 : pm_dck pm_mm137 = true := by decide +kernel
theorem pm_dm138 : pm_dck pm_mm138 = true := by decide +kernel
theorem pm_dm139 : pm_dck pm_mm139 = true := by decide +kernel
theorem pm_gd6 : pm_g6.all pm_dck = true := by
  unfold pm_g6
  simp only [List.all_cons, List.all_nil, Bool.and_true, pm_dm120, pm_dm121, pm_dm122, pm_dm123, pm_dm124, pm_dm125, pm_dm126, pm_dm127, pm_dm128, pm_dm129, pm_dm130, pm_dm131, pm_dm132, pm_dm133, pm_dm134, pm_dm135, pm_dm136, pm_dm137, pm_dm138, pm_dm139]
