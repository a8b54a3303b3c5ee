/-! the methods of group 3: their words, their instructions -/
set_option maxRecDepth 100000 in
theorem pm_kk60 : Cond.code (pm_nm pm_mm60) (pm_by pm_mm60) (pm_ml pm_mm60) (pm_re pm_mm60) ∈ lw_tbl := List.mem_append_right _ (List.mem_append_right _ (List.mem_append_right _ (List.mem_append_left _ (List.mem_of_getElem? (i := 53) rfl))))
set_option maxRecDepth 100000 in
theorem pm_kk61 : Cond.code (pm_nm pm_mm61) (pm_by pm_mm61) (pm_ml pm_mm61) (pm_re pm_mm61) ∈ lw_tbl := List.mem_append_right _ (List.mem_append_right _ (List.mem_append_right _ (List.mem_append_left _ (List.mem_of_getElem? (i := 57) rfl))))
set_option maxRecDepth 100000 in
theorem pm_kk62 : Cond.code (pm_nm pm_mm62) (pm_by pm_mm62) (pm_ml pm_mm62) (pm_re pm_mm62) ∈ lw_tbl := List.mem_append_right _ (List.mem_append_right _ (List.mem_append_right _ (List.mem_append_left _ (List.mem_of_getElem? (i := 61) rfl))))
set_option maxRecDepth 100000 in
theorem pm_kk63 : Cond.code (pm_nm pm_mm63) (pm_by pm_mm63) (pm_ml pm_mm63) (pm_re pm_mm63) ∈ lw_tbl := List.mem_append_right _ (List.mem_append_right _ (List.mem_append_right _ (List.mem_append_left _ (List.mem_of_getElem? (i := 66) rfl))))
set_option maxRecDepth 100000 in
theorem pm_kk64 : Cond.code (pm_nm pm_mm64) (pm_by pm_mm64) (pm_ml pm_mm64) (pm_re pm_mm64) ∈ lw_tbl := List.mem_append_right _ (List.mem_append_right _ (List.mem_append_right _ (List.mem_append_left _ (List.mem_of_getElem? (i := 69) rfl))))
set_option maxRecDepth 100000 in
theorem pm_kk65 : Cond.code (pm_nm pm_mm65) (pm_by pm_mm65) (pm_ml pm_mm65) (pm_re pm_mm65) ∈ lw_tbl := List.mem_append_right _ (List.mem_append_right _ (List.mem_append_right _ (List.mem_append_left _ (List.mem_of_getElem? (i := 73) rfl))))
set_option maxRecDepth 100000 in
theorem pm_kk66 : Cond.code (pm_nm pm_mm66) (pm_by pm_mm66) (pm_ml pm_mm66) (pm_re pm_mm66) ∈ lw_tbl := List.mem_append_right _ (List.mem_append_right _ (List.mem_append_right _ (List.mem_append_left _ (List.mem_of_getElem? (i := 77) rfl))))
set_option maxRecDepth 100000 in
theorem pm_kk67 : Cond.code (pm_nm pm_mm67) (pm_by pm_mm67) (pm_ml pm_mm67) (pm_re pm_mm67) ∈ lw_tbl := List.mem_append_right _ (List.mem_append_right _ (List.mem_append_right _ (List.mem_append_left _ (List.mem_of_getElem? (i := 81) rfl))))
set_option maxRecDepth 100000 in
theorem pm_kk68 : Cond.code (pm_nm pm_mm68) (pm_by pm_mm68) (pm_ml pm_mm68) (pm_re pm_mm68) ∈ lw_tbl := List.mem_append_right _ (List.mem_append_right _ (List.mem_append_right _ (List.mem_append_left _ (List.mem_of_getElem? (i := 84) rfl))))
set_option maxRecDepth 100000 in
theorem pm_kk69 : Cond.code (pm_nm pm_mm69) (pm_by pm_mm69) (pm_ml pm_mm69) (pm_re pm_mm69) ∈ lw_tbl := List.mem_append_right _ (List.mem_append_right _ (List.mem_append_right _ (List.mem_append_left _ (List.mem_of_getElem? (i := 89) rfl))))
set_option maxRecDepth 100000 in
theorem pm_kk70 : Cond.code (pm_nm pm_mm70) (pm_by pm_mm70) (pm_ml pm_mm70) (pm_re pm_mm70) ∈ lw_tbl := List.mem_append_right _ (List.mem_append_right _ (List.mem_append_right _ (List.mem_append_left _ (List.mem_of_getElem? (i := 93) rfl))))
set_option maxRecDepth 100000 in
theorem pm_kk71 : Cond.code (pm_nm pm_mm71) (pm_by pm_mm71) (pm_ml pm_mm71) (pm_re pm_mm71) ∈ lw_tbl := List.mem_append_right _ (List.mem_append_right _ (List.mem_append_right _ (List.mem_append_left _ (List.mem_of_getElem? (i := 100) rfl))))
set_option maxRecDepth 100000 in
theorem pm_kk72 : Cond.code (pm_nm pm_mm72) (pm_by pm_mm72) (pm_ml pm_mm72) (pm_re pm_mm72) ∈ lw_tbl := List.mem_append_right _ (List.mem_append_right _ (List.mem_append_right _ (List.mem_append_left _ (List.mem_of_getElem? (i := 104) rfl))))
set_option maxRecDepth 100000 in
theorem pm_kk73 : Cond.code (pm_nm pm_mm73) (pm_by pm_mm73) (pm_ml pm_mm73) (pm_re pm_mm73) ∈ lw_tbl := List.mem_append_right _ (List.mem_append_right _ (List.mem_append_right _ (List.mem_append_left _ (List.mem_of_getElem? (i := 108) rfl))))
set_option maxRecDepth 100000 in
theorem pm_kk74 : Cond.code (pm_nm pm_mm74) (pm_by pm_mm74) (pm_ml pm_mm74) (pm_re pm_mm74) ∈ lw_tbl := List.mem_append_right _ (List.mem_append_right _ (List.mem_append_right _ (List.mem_append_left _ (List.mem_of_getElem? (i := 112) rfl))))
set_option maxRecDepth 100000 in
theorem pm_kk75 : Cond.code (pm_nm pm_mm75) (pm_by pm_mm75) (pm_ml pm_mm75) (pm_re pm_mm75) ∈ lw_tbl := List.mem_append_right _ (List.mem_append_right _ (List.mem_append_right _ (List.mem_append_left _ (List.mem_of_getElem? (i := 116) rfl))))
set_option maxRecDepth 100000 in
theorem pm_kk76 : Cond.code (pm_nm pm_mm76) (pm_by pm_mm76) (pm_ml pm_mm76) (pm_re pm_mm76) ∈ lw_tbl := List.mem_append_right _ (List.mem_append_right _ (List.mem_append_right _ (List.mem_append_left _ (List.mem_of_getElem? (i := 121) rfl))))
set_option maxRecDepth 100000 in
theorem pm_kk77 : Cond.code (pm_nm pm_mm77) (pm_by pm_mm77) (pm_ml pm_mm77) (pm_re pm_mm77) ∈ lw_tbl := List.mem_append_right _ (List.mem_append_right _ (List.mem_append_right _ (List.mem_append_left _ (List.mem_of_getElem? (i := 125) rfl))))
set_option maxRecDepth 100000 in
theorem pm_kk78 : Cond.code (pm_nm pm_mm78) (pm_by pm_mm78) (pm_ml pm_mm78) (pm_re pm_mm78) ∈ lw_tbl := List.mem_append_right _ (List.mem_append_right _ (List.mem_append_right _ (List.mem_append_left _ (List.mem_of_getElem? (i := 129) rfl))))
set_option maxRecDepth 100000 in
theorem pm_kk79 : Cond.code (pm_nm pm_mm79) (pm_by pm_mm79) (pm_ml pm_mm79) (pm_re pm_mm79) ∈ lw_tbl := List.mem_append_right _ (List.mem_append_right _ (List.mem_append_right _ (List.mem_append_left _ (List.mem_of_getElem? (i := 134) rfl))))
theorem pm_gk3 : ∀ T ∈ pm_g3, pm_ps T ≠ 0 → Cond.code (pm_nm T) (pm_by T) (pm_ml T) (pm_re T) ∈ lw_tbl := List.forall_mem_cons.mpr ⟨fun _ => pm_kk60, List.forall_mem_cons.mpr ⟨fun _ => pm_kk61, List.forall_mem_cons.mpr ⟨fun _ => pm_kk62, List.forall_mem_cons.mpr ⟨fun _ => pm_kk63, List.forall_mem_cons.mpr ⟨fun _ => pm_kk64, List.forall_mem_cons.mpr ⟨fun _ => pm_kk65, List.forall_mem_cons.mpr ⟨fun _ => pm_kk66, List.forall_mem_cons.mpr ⟨fun _ => pm_kk67, List.forall_mem_cons.mpr ⟨fun _ => pm_kk68, List.forall_mem_cons.mpr ⟨fun _ => pm_kk69, List.forall_mem_cons.mpr ⟨fun _ => pm_kk70, List.forall_mem_cons.mpr ⟨fun _ => pm_kk71, List.forall_mem_cons.mpr ⟨fun _ => pm_kk72, List.forall_mem_cons.mpr ⟨fun _ => pm_kk73, List.forall_mem_cons.mpr ⟨fun _ => pm_kk74, List.forall_mem_cons.mpr ⟨fun _ => pm_kk75, List.forall_mem_cons.mpr ⟨fun _ => pm_kk76, List.forall_mem_cons.mpr ⟨fun _ => pm_kk77, List.forall_mem_cons.mpr ⟨fun _ => pm_kk78, List.forall_mem_cons.mpr ⟨fun _ => pm_kk79, fun _ h => absurd h List.not_mem_nil⟩⟩⟩⟩⟩⟩⟩⟩⟩⟩⟩⟩⟩⟩⟩⟩⟩⟩⟩⟩
theorem pm_gt3 : pm_g3.all pm_tck = true := by decide +kernel
theorem pm_dm60 : pm_dck pm_mm60 = true := by decide +kernel
theorem pm_dm61 : pm_dck pm_mm61 = true := by decide +kernel
theorem pm_dm62 : pm_dck pm_mm62 = true := by decide +kernel
theorem pm_dm63 : pm_dck pm_mm63 = true := by decide +kernel
theorem pm_dm64 : pm_dck pm_mm64 = true := by decide +kernel
theorem pm_dm65 : pm_dck pm_mm65 = true := by decide +kernel
theorem pm_dm66 : pm_dck pm_mm66 = true := by decide +kernel
theorem pm_dm67 : pm_dck pm_mm67 = true := by decide +kernel
theorem pm_dm68 : pm_dck pm_mm68 = true := by decide +kernel
theorem pm_dm69 : pm_dck pm_mm69 = true := by decide +kernel
theorem pm_dm70 : pm_dck pm_mm70 = true := by decide +kernel
theorem pm_dm71 : pm_dck pm_mm71 = true := by decide +kernel
theorem pm_dm72 : pm_dck pm_mm72 = true := by decide +kernel
theorem pm_dm73 : pm_dck pm_mm73 = true := by decide +kernel
theorem pm_dm74 : pm_dck pm_mm74 = true := by decide +kernel
theorem pm_dm75 : pm_dck pm_mm75 = true := by decide +kernel
theorem pm_dm76 : pm_dck pm_mm76 = true := by decide +kernel
theorem pm_dm77 : pm_dck pm_mm77 = true := by decide +kernel
theorem pm_dm78 : pm_dck pm_mm78 = true := by decide +kernel
theorem pm_dm79 : pm_dck pm_mm79 = true := by decide +kernel
theorem pm_gd3 : pm_g3.all pm_dck = true := by
  unfold pm_g3
  simp only [List.all_cons, List.all_nil, Bool.and_true, pm_dm60, pm_dm61, pm_dm62, pm_dm63, pm_dm64, pm_dm65, pm_dm66, pm_dm67, pm_dm68, pm_dm69, pm_dm70, pm_dm71, pm_dm72, pm_dm73, pm_dm74, pm_dm75, pm_dm76, pm_dm77, pm_dm78, pm_dm79]
