/-! the methods of group 10: their words, their instructions -/
set_option maxRecDepth 100000 in
theorem pm_kk200 : Cond.code (pm_nm pm_mm200) (pm_by pm_mm200) (pm_ml pm_mm200) (pm_re pm_mm200) ∈ lw_tbl := List.mem_append_right _ (List.mem_append_right _ (List.mem_append_right _ (List.mem_append_right _ (List.mem_append_right _ (List.mem_append_right _ (List.mem_of_getElem? (i := 141) rfl))))))
set_option maxRecDepth 100000 in
theorem pm_kk201 : Cond.code (pm_nm pm_mm201) (pm_by pm_mm201) (pm_ml pm_mm201) (pm_re pm_mm201) ∈ lw_tbl := List.mem_append_right _ (List.mem_append_right _ (List.mem_append_right _ (List.mem_append_right _ (List.mem_append_right _ (List.mem_append_right _ (List.mem_of_getElem? (i := 145) rfl))))))
set_option maxRecDepth 100000 in
theorem pm_kk202 : Cond.code (pm_nm pm_mm202) (pm_by pm_mm202) (pm_ml pm_mm202) (pm_re pm_mm202) ∈ lw_tbl := List.mem_append_right _ (List.mem_append_right _ (List.mem_append_right _ (List.mem_append_right _ (List.mem_append_right _ (List.mem_append_right _ (List.mem_of_getElem? (i := 149) rfl))))))
set_option maxRecDepth 100000 in
theorem pm_kk203 : Cond.code (pm_nm pm_mm203) (pm_by pm_mm203) (pm_ml pm_mm203) (pm_re pm_mm203) ∈ lw_tbl := List.mem_append_right _ (List.mem_append_right _ (List.mem_append_right _ (List.mem_append_right _ (List.mem_append_right _ (List.mem_append_right _ (List.mem_of_getElem? (i := 153) rfl))))))
set_option maxRecDepth 100000 in
theorem pm_kk204 : Cond.code (pm_nm pm_mm204) (pm_by pm_mm204) (pm_ml pm_mm204) (pm_re pm_mm204) ∈ lw_tbl := List.mem_append_right _ (List.mem_append_right _ (List.mem_append_right _ (List.mem_append_right _ (List.mem_append_right _ (List.mem_append_right _ (List.mem_of_getElem? (i := 157) rfl))))))
set_option maxRecDepth 100000 in
theorem pm_kk205 : Cond.code (pm_nm pm_mm205) (pm_by pm_mm205) (pm_ml pm_mm205) (pm_re pm_mm205) ∈ lw_tbl := List.mem_append_right _ (List.mem_append_right _ (List.mem_append_right _ (List.mem_append_right _ (List.mem_append_right _ (List.mem_append_right _ (List.mem_of_getElem? (i := 161) rfl))))))
set_option maxRecDepth 100000 in
theorem pm_kk206 : Cond.code (pm_nm pm_mm206) (pm_by pm_mm206) (pm_ml pm_mm206) (pm_re pm_mm206) ∈ lw_tbl := List.mem_append_right _ (List.mem_append_right _ (List.mem_append_right _ (List.mem_append_right _ (List.mem_append_right _ (List.mem_append_right _ (List.mem_of_getElem? (i := 165) rfl))))))
set_option maxRecDepth 100000 in
theorem pm_kk207 : Cond.code (pm_nm pm_mm207) (pm_by pm_mm207) (pm_ml pm_mm207) (pm_re pm_mm207) ∈ lw_tbl := List.mem_append_right _ (List.mem_append_right _ (List.mem_append_right _ (List.mem_append_right _ (List.mem_append_right _ (List.mem_append_right _ (List.mem_of_getElem? (i := 169) rfl))))))
set_option maxRecDepth 100000 in
theorem pm_kk208 : Cond.code (pm_nm pm_mm208) (pm_by pm_mm208) (pm_ml pm_mm208) (pm_re pm_mm208) ∈ lw_tbl := List.mem_append_right _ (List.mem_append_right _ (List.mem_append_right _ (List.mem_append_right _ (List.mem_append_right _ (List.mem_append_right _ (List.mem_of_getElem? (i := 173) rfl))))))
set_option maxRecDepth 100000 in
theorem pm_kk209 : Cond.code (pm_nm pm_mm209) (pm_by pm_mm209) (pm_ml pm_mm209) (pm_re pm_mm209) ∈ lw_tbl := List.mem_append_right _ (List.mem_append_right _ (List.mem_append_right _ (List.mem_append_right _ (List.mem_append_right _ (List.mem_append_right _ (List.mem_of_getElem? (i := 177) rfl))))))
set_option maxRecDepth 100000 in
theorem pm_kk210 : Cond.code (pm_nm pm_mm210) (pm_by pm_mm210) (pm_ml pm_mm210) (pm_re pm_mm210) ∈ lw_tbl := List.mem_append_right _ (List.mem_append_right _ (List.mem_append_right _ (List.mem_append_right _ (List.mem_append_right _ (List.mem_append_right _ (List.mem_of_getElem? (i := 181) rfl))))))
set_option maxRecDepth 100000 in
theorem pm_kk211 : Cond.code (pm_nm pm_mm211) (pm_by pm_mm211) (pm_ml pm_mm211) (pm_re pm_mm211) ∈ lw_tbl := List.mem_append_right _ (List.mem_append_right _ (List.mem_append_right _ (List.mem_append_right _ (List.mem_append_right _ (List.mem_append_right _ (List.mem_of_getElem? (i := 185) rfl))))))
set_option maxRecDepth 100000 in
theorem pm_kk212 : Cond.code (pm_nm pm_mm212) (pm_by pm_mm212) (pm_ml pm_mm212) (pm_re pm_mm212) ∈ lw_tbl := List.mem_append_right _ (List.mem_append_right _ (List.mem_append_right _ (List.mem_append_right _ (List.mem_append_right _ (List.mem_append_right _ (List.mem_of_getElem? (i := 189) rfl))))))
set_option maxRecDepth 100000 in
theorem pm_kk213 : Cond.code (pm_nm pm_mm213) (pm_by pm_mm213) (pm_ml pm_mm213) (pm_re pm_mm213) ∈ lw_tbl := List.mem_append_right _ (List.mem_append_right _ (List.mem_append_right _ (List.mem_append_right _ (List.mem_append_right _ (List.mem_append_right _ (List.mem_of_getElem? (i := 196) rfl))))))
set_option maxRecDepth 100000 in
theorem pm_kk214 : Cond.code (pm_nm pm_mm214) (pm_by pm_mm214) (pm_ml pm_mm214) (pm_re pm_mm214) ∈ lw_tbl := List.mem_append_right _ (List.mem_append_right _ (List.mem_append_right _ (List.mem_append_right _ (List.mem_append_right _ (List.mem_append_right _ (List.mem_of_getElem? (i := 200) rfl))))))
theorem pm_gk10 : ∀ T ∈ pm_g10, pm_ps T ≠ 0 → Cond.code (pm_nm T) (pm_by T) (pm_ml T) (pm_re T) ∈ lw_tbl := List.forall_mem_cons.mpr ⟨fun _ => pm_kk200, List.forall_mem_cons.mpr ⟨fun _ => pm_kk201, List.forall_mem_cons.mpr ⟨fun _ => pm_kk202, List.forall_mem_cons.mpr ⟨fun _ => pm_kk203, List.forall_mem_cons.mpr ⟨fun _ => pm_kk204, List.forall_mem_cons.mpr ⟨fun _ => pm_kk205, List.forall_mem_cons.mpr ⟨fun _ => pm_kk206, List.forall_mem_cons.mpr ⟨fun _ => pm_kk207, List.forall_mem_cons.mpr ⟨fun _ => pm_kk208, List.forall_mem_cons.mpr ⟨fun _ => pm_kk209, List.forall_mem_cons.mpr ⟨fun _ => pm_kk210, List.forall_mem_cons.mpr ⟨fun _ => pm_kk211, List.forall_mem_cons.mpr ⟨fun _ => pm_kk212, List.forall_mem_cons.mpr ⟨fun _ => pm_kk213, List.forall_mem_cons.mpr ⟨fun _ => pm_kk214, fun _ h => absurd h List.not_mem_nil⟩⟩⟩⟩⟩⟩⟩⟩⟩⟩⟩⟩⟩⟩⟩
theorem pm_gt10 : pm_g10.all pm_tck = true := by decide +kernel
theorem pm_gd10 : pm_g10.all pm_dck = true := by decide +kernel
