/-! the methods of group 2: their words, their instructions -/
set_option maxRecDepth 100000 in
theorem pm_kk40 : Cond.code (pm_nm pm_mm40) (pm_by pm_mm40) (pm_ml pm_mm40) (pm_re pm_mm40) ∈ lw_tbl := List.mem_append_right _ (List.mem_append_right _ (List.mem_append_left _ (List.mem_of_getElem? (i := 186) rfl)))
set_option maxRecDepth 100000 in
theorem pm_kk41 : Cond.code (pm_nm pm_mm41) (pm_by pm_mm41) (pm_ml pm_mm41) (pm_re pm_mm41) ∈ lw_tbl := List.mem_append_right _ (List.mem_append_right _ (List.mem_append_left _ (List.mem_of_getElem? (i := 189) rfl)))
set_option maxRecDepth 100000 in
theorem pm_kk42 : Cond.code (pm_nm pm_mm42) (pm_by pm_mm42) (pm_ml pm_mm42) (pm_re pm_mm42) ∈ lw_tbl := List.mem_append_right _ (List.mem_append_right _ (List.mem_append_left _ (List.mem_of_getElem? (i := 193) rfl)))
set_option maxRecDepth 100000 in
theorem pm_kk43 : Cond.code (pm_nm pm_mm43) (pm_by pm_mm43) (pm_ml pm_mm43) (pm_re pm_mm43) ∈ lw_tbl := List.mem_append_right _ (List.mem_append_right _ (List.mem_append_left _ (List.mem_of_getElem? (i := 198) rfl)))
set_option maxRecDepth 100000 in
theorem pm_kk44 : Cond.code (pm_nm pm_mm44) (pm_by pm_mm44) (pm_ml pm_mm44) (pm_re pm_mm44) ∈ lw_tbl := List.mem_append_right _ (List.mem_append_right _ (List.mem_append_left _ (List.mem_of_getElem? (i := 202) rfl)))
set_option maxRecDepth 100000 in
theorem pm_kk45 : Cond.code (pm_nm pm_mm45) (pm_by pm_mm45) (pm_ml pm_mm45) (pm_re pm_mm45) ∈ lw_tbl := List.mem_append_right _ (List.mem_append_right _ (List.mem_append_left _ (List.mem_of_getElem? (i := 206) rfl)))
set_option maxRecDepth 100000 in
theorem pm_kk46 : Cond.code (pm_nm pm_mm46) (pm_by pm_mm46) (pm_ml pm_mm46) (pm_re pm_mm46) ∈ lw_tbl := List.mem_append_right _ (List.mem_append_right _ (List.mem_append_left _ (List.mem_of_getElem? (i := 210) rfl)))
set_option maxRecDepth 100000 in
theorem pm_kk47 : Cond.code (pm_nm pm_mm47) (pm_by pm_mm47) (pm_ml pm_mm47) (pm_re pm_mm47) ∈ lw_tbl := List.mem_append_right _ (List.mem_append_right _ (List.mem_append_left _ (List.mem_of_getElem? (i := 214) rfl)))
set_option maxRecDepth 100000 in
theorem pm_kk48 : Cond.code (pm_nm pm_mm48) (pm_by pm_mm48) (pm_ml pm_mm48) (pm_re pm_mm48) ∈ lw_tbl := List.mem_append_right _ (List.mem_append_right _ (List.mem_append_left _ (List.mem_of_getElem? (i := 218) rfl)))
set_option maxRecDepth 100000 in
theorem pm_kk49 : Cond.code (pm_nm pm_mm49) (pm_by pm_mm49) (pm_ml pm_mm49) (pm_re pm_mm49) ∈ lw_tbl := List.mem_append_right _ (List.mem_append_right _ (List.mem_append_left _ (List.mem_of_getElem? (i := 222) rfl)))
set_option maxRecDepth 100000 in
theorem pm_kk50 : Cond.code (pm_nm pm_mm50) (pm_by pm_mm50) (pm_ml pm_mm50) (pm_re pm_mm50) ∈ lw_tbl := List.mem_append_right _ (List.mem_append_right _ (List.mem_append_left _ (List.mem_of_getElem? (i := 227) rfl)))
set_option maxRecDepth 100000 in
theorem pm_kk51 : Cond.code (pm_nm pm_mm51) (pm_by pm_mm51) (pm_ml pm_mm51) (pm_re pm_mm51) ∈ lw_tbl := List.mem_append_right _ (List.mem_append_right _ (List.mem_append_left _ (List.mem_of_getElem? (i := 231) rfl)))
set_option maxRecDepth 100000 in
theorem pm_kk52 : Cond.code (pm_nm pm_mm52) (pm_by pm_mm52) (pm_ml pm_mm52) (pm_re pm_mm52) ∈ lw_tbl := List.mem_append_right _ (List.mem_append_right _ (List.mem_append_left _ (List.mem_of_getElem? (i := 235) rfl)))
set_option maxRecDepth 100000 in
theorem pm_kk53 : Cond.code (pm_nm pm_mm53) (pm_by pm_mm53) (pm_ml pm_mm53) (pm_re pm_mm53) ∈ lw_tbl := List.mem_append_right _ (List.mem_append_right _ (List.mem_append_left _ (List.mem_of_getElem? (i := 239) rfl)))
set_option maxRecDepth 100000 in
theorem pm_kk54 : Cond.code (pm_nm pm_mm54) (pm_by pm_mm54) (pm_ml pm_mm54) (pm_re pm_mm54) ∈ lw_tbl := List.mem_append_right _ (List.mem_append_right _ (List.mem_append_right _ (List.mem_append_left _ (List.mem_of_getElem? (i := 3) rfl))))
set_option maxRecDepth 100000 in
theorem pm_kk55 : Cond.code (pm_nm pm_mm55) (pm_by pm_mm55) (pm_ml pm_mm55) (pm_re pm_mm55) ∈ lw_tbl := List.mem_append_right _ (List.mem_append_right _ (List.mem_append_right _ (List.mem_append_left _ (List.mem_of_getElem? (i := 7) rfl))))
set_option maxRecDepth 100000 in
theorem pm_kk56 : Cond.code (pm_nm pm_mm56) (pm_by pm_mm56) (pm_ml pm_mm56) (pm_re pm_mm56) ∈ lw_tbl := List.mem_append_right _ (List.mem_append_right _ (List.mem_append_right _ (List.mem_append_left _ (List.mem_of_getElem? (i := 32) rfl))))
set_option maxRecDepth 100000 in
theorem pm_kk57 : Cond.code (pm_nm pm_mm57) (pm_by pm_mm57) (pm_ml pm_mm57) (pm_re pm_mm57) ∈ lw_tbl := List.mem_append_right _ (List.mem_append_right _ (List.mem_append_right _ (List.mem_append_left _ (List.mem_of_getElem? (i := 37) rfl))))
set_option maxRecDepth 100000 in
theorem pm_kk58 : Cond.code (pm_nm pm_mm58) (pm_by pm_mm58) (pm_ml pm_mm58) (pm_re pm_mm58) ∈ lw_tbl := List.mem_append_right _ (List.mem_append_right _ (List.mem_append_right _ (List.mem_append_left _ (List.mem_of_getElem? (i := 42) rfl))))
set_option maxRecDepth 100000 in
theorem pm_kk59 : Cond.code (pm_nm pm_mm59) (pm_by pm_mm59) (pm_ml pm_mm59) (pm_re pm_mm59) ∈ lw_tbl := List.mem_append_right _ (List.mem_append_right _ (List.mem_append_right _ (List.mem_append_left _ (List.mem_of_getElem? (i := 46) rfl))))
theorem pm_gk2 : ∀ T ∈ pm_g2, pm_ps T ≠ 0 → Cond.code (pm_nm T) (pm_by T) (pm_ml T) (pm_re T) ∈ lw_tbl := List.forall_mem_cons.mpr ⟨fun _ => pm_kk40, List.forall_mem_cons.mpr ⟨fun _ => pm_kk41, List.forall_mem_cons.mpr ⟨fun _ => pm_kk42, List.forall_mem_cons.mpr ⟨fun _ => pm_kk43, List.forall_mem_cons.mpr ⟨fun _ => pm_kk44, List.forall_mem_cons.mpr ⟨fun _ => pm_kk45, List.forall_mem_cons.mpr ⟨fun _ => pm_kk46, List.forall_mem_cons.mpr ⟨fun _ => pm_kk47, List.forall_mem_cons.mpr ⟨fun _ => pm_kk48, List.forall_mem_cons.mpr ⟨fun _ => pm_kk49, List.forall_mem_cons.mpr ⟨fun _ => pm_kk50, List.forall_mem_cons.mpr ⟨fun _ => pm_kk51, List.forall_mem_cons.mpr ⟨fun _ => pm_kk52, List.forall_mem_cons.mpr ⟨fun _ => pm_kk53, List.forall_mem_cons.mpr ⟨fun _ => pm_kk54, List.forall_mem_cons.mpr ⟨fun _ => pm_kk55, List.forall_mem_cons.mpr ⟨fun _ => pm_kk56, List.forall_mem_cons.mpr ⟨fun _ => pm_kk57, List.forall_mem_cons.mpr ⟨fun _ => pm_kk58, List.forall_mem_cons.mpr ⟨fun _ => pm_kk59, fun _ h => absurd h List.not_mem_nil⟩⟩⟩⟩⟩⟩⟩⟩⟩⟩⟩⟩⟩⟩⟩⟩⟩⟩⟩⟩
theorem pm_gt2 : pm_g2.all pm_tck = true := by decide +kernel
theorem pm_dm40 : pm_dck pm_mm40 = true := by decide +kernel
theorem pm_dm41 : pm_dck pm_mm41 = true := by decide +kernel
theorem pm_dm42 : pm_dck pm_mm42 = true := by decide +kernel
theorem pm_dm43 : pm_dck pm_mm43 = true := by decide +kernel
theorem pm_dm44 : pm_dck pm_mm44 = true := by decide +kernel
theorem pm_dm45 : pm_dck pm_mm45 = true := by decide +kernel
theorem pm_dm46 : pm_dck pm_mm46 = true := by decide +kernel
theorem pm_dm47 : pm_dck pm_mm47 = true := by decide +kernel
theorem pm_dm48 : pm_dck pm_mm48 = true := by decide +kernel
theorem pm_dm49 : pm_dck pm_mm49 = true := by decide +kernel
theorem pm_dm50 : pm_dck pm_mm50 = true := by decide +kernel
theorem pm_dm51 : pm_dck pm_mm51 = true := by decide +kernel
theorem pm_dm52 : pm_dck pm_mm52 = true := by decide +kernel
theorem pm_dm53 : pm_dck pm_mm53 = true := by decide +kernel
theorem pm_dm54 : pm_dck pm_mm54 = true := by decide +kernel
theorem pm_dm55 : pm_dck pm_mm55 = true := by decide +kernel
theorem pm_dm56 : pm_dck pm_mm56 = true := by decide +kernel
theorem pm_dm57 : pm_dck pm_mm57 = true := by decide +kernel
theorem pm_dm58 : pm_dck pm_mm58 = true := by decide +kernel
theorem pm_dm59 : pm_dck pm_mm59 = true := by decide +kernel
theorem pm_gd2 : pm_g2.all pm_dck = true := by
  unfold pm_g2
  simp only [List.all_cons, List.all_nil, Bool.and_true, pm_dm40, pm_dm41, pm_dm42, pm_dm43, pm_dm44, pm_dm45, pm_dm46, pm_dm47, pm_dm48, pm_dm49, pm_dm50, pm_dm51, pm_dm52, pm_dm53, pm_dm54, pm_dm55, pm_dm56, pm_dm57, pm_dm58, pm_dm59]
