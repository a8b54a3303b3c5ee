/-! the methods of group 5: their words, their instructions -/
set_option maxRecDepth 100000 in
theorem pm_kk100 : Cond.code (pm_nm pm_mm100) (pm_by pm_mm100) (pm_ml pm_mm100) (pm_re pm_mm100) ∈ lw_tbl := List.mem_append_right _ (List.mem_append_right _ (List.mem_append_right _ (List.mem_append_right _ (List.mem_append_left _ (List.mem_of_getElem? (i := 9) rfl)))))
set_option maxRecDepth 100000 in
theorem pm_kk101 : Cond.code (pm_nm pm_mm101) (pm_by pm_mm101) (pm_ml pm_mm101) (pm_re pm_mm101) ∈ lw_tbl := List.mem_append_right _ (List.mem_append_right _ (List.mem_append_right _ (List.mem_append_right _ (List.mem_append_left _ (List.mem_of_getElem? (i := 15) rfl)))))
set_option maxRecDepth 100000 in
theorem pm_kk102 : Cond.code (pm_nm pm_mm102) (pm_by pm_mm102) (pm_ml pm_mm102) (pm_re pm_mm102) ∈ lw_tbl := List.mem_append_right _ (List.mem_append_right _ (List.mem_append_right _ (List.mem_append_right _ (List.mem_append_left _ (List.mem_of_getElem? (i := 19) rfl)))))
set_option maxRecDepth 100000 in
theorem pm_kk103 : Cond.code (pm_nm pm_mm103) (pm_by pm_mm103) (pm_ml pm_mm103) (pm_re pm_mm103) ∈ lw_tbl := List.mem_append_right _ (List.mem_append_right _ (List.mem_append_right _ (List.mem_append_right _ (List.mem_append_left _ (List.mem_of_getElem? (i := 23) rfl)))))
set_option maxRecDepth 100000 in
theorem pm_kk104 : Cond.code (pm_nm pm_mm104) (pm_by pm_mm104) (pm_ml pm_mm104) (pm_re pm_mm104) ∈ lw_tbl := List.mem_append_right _ (List.mem_append_right _ (List.mem_append_right _ (List.mem_append_right _ (List.mem_append_left _ (List.mem_of_getElem? (i := 27) rfl)))))
set_option maxRecDepth 100000 in
theorem pm_kk105 : Cond.code (pm_nm pm_mm105) (pm_by pm_mm105) (pm_ml pm_mm105) (pm_re pm_mm105) ∈ lw_tbl := List.mem_append_right _ (List.mem_append_right _ (List.mem_append_right _ (List.mem_append_right _ (List.mem_append_left _ (List.mem_of_getElem? (i := 30) rfl)))))
set_option maxRecDepth 100000 in
theorem pm_kk106 : Cond.code (pm_nm pm_mm106) (pm_by pm_mm106) (pm_ml pm_mm106) (pm_re pm_mm106) ∈ lw_tbl := List.mem_append_right _ (List.mem_append_right _ (List.mem_append_right _ (List.mem_append_right _ (List.mem_append_left _ (List.mem_of_getElem? (i := 33) rfl)))))
set_option maxRecDepth 100000 in
theorem pm_kk107 : Cond.code (pm_nm pm_mm107) (pm_by pm_mm107) (pm_ml pm_mm107) (pm_re pm_mm107) ∈ lw_tbl := List.mem_append_right _ (List.mem_append_right _ (List.mem_append_right _ (List.mem_append_right _ (List.mem_append_left _ (List.mem_of_getElem? (i := 37) rfl)))))
set_option maxRecDepth 100000 in
theorem pm_kk108 : Cond.code (pm_nm pm_mm108) (pm_by pm_mm108) (pm_ml pm_mm108) (pm_re pm_mm108) ∈ lw_tbl := List.mem_append_right _ (List.mem_append_right _ (List.mem_append_right _ (List.mem_append_right _ (List.mem_append_left _ (List.mem_of_getElem? (i := 41) rfl)))))
set_option maxRecDepth 100000 in
theorem pm_kk109 : Cond.code (pm_nm pm_mm109) (pm_by pm_mm109) (pm_ml pm_mm109) (pm_re pm_mm109) ∈ lw_tbl := List.mem_append_right _ (List.mem_append_right _ (List.mem_append_right _ (List.mem_append_right _ (List.mem_append_left _ (List.mem_of_getElem? (i := 45) rfl)))))
set_option maxRecDepth 100000 in
theorem pm_kk110 : Cond.code (pm_nm pm_mm110) (pm_by pm_mm110) (pm_ml pm_mm110) (pm_re pm_mm110) ∈ lw_tbl := List.mem_append_right _ (List.mem_append_right _ (List.mem_append_right _ (List.mem_append_right _ (List.mem_append_left _ (List.mem_of_getElem? (i := 50) rfl)))))
set_option maxRecDepth 100000 in
theorem pm_kk111 : Cond.code (pm_nm pm_mm111) (pm_by pm_mm111) (pm_ml pm_mm111) (pm_re pm_mm111) ∈ lw_tbl := List.mem_append_right _ (List.mem_append_right _ (List.mem_append_right _ (List.mem_append_right _ (List.mem_append_left _ (List.mem_of_getElem? (i := 98) rfl)))))
set_option maxRecDepth 100000 in
theorem pm_kk112 : Cond.code (pm_nm pm_mm112) (pm_by pm_mm112) (pm_ml pm_mm112) (pm_re pm_mm112) ∈ lw_tbl := List.mem_append_right _ (List.mem_append_right _ (List.mem_append_right _ (List.mem_append_right _ (List.mem_append_left _ (List.mem_of_getElem? (i := 103) rfl)))))
set_option maxRecDepth 100000 in
theorem pm_kk113 : Cond.code (pm_nm pm_mm113) (pm_by pm_mm113) (pm_ml pm_mm113) (pm_re pm_mm113) ∈ lw_tbl := List.mem_append_right _ (List.mem_append_right _ (List.mem_append_right _ (List.mem_append_right _ (List.mem_append_left _ (List.mem_of_getElem? (i := 107) rfl)))))
set_option maxRecDepth 100000 in
theorem pm_kk114 : Cond.code (pm_nm pm_mm114) (pm_by pm_mm114) (pm_ml pm_mm114) (pm_re pm_mm114) ∈ lw_tbl := List.mem_append_right _ (List.mem_append_right _ (List.mem_append_right _ (List.mem_append_right _ (List.mem_append_left _ (List.mem_of_getElem? (i := 111) rfl)))))
set_option maxRecDepth 100000 in
theorem pm_kk115 : Cond.code (pm_nm pm_mm115) (pm_by pm_mm115) (pm_ml pm_mm115) (pm_re pm_mm115) ∈ lw_tbl := List.mem_append_right _ (List.mem_append_right _ (List.mem_append_right _ (List.mem_append_right _ (List.mem_append_left _ (List.mem_of_getElem? (i := 115) rfl)))))
set_option maxRecDepth 100000 in
theorem pm_kk116 : Cond.code (pm_nm pm_mm116) (pm_by pm_mm116) (pm_ml pm_mm116) (pm_re pm_mm116) ∈ lw_tbl := List.mem_append_right _ (List.mem_append_right _ (List.mem_append_right _ (List.mem_append_right _ (List.mem_append_left _ (List.mem_of_getElem? (i := 120) rfl)))))
set_option maxRecDepth 100000 in
theorem pm_kk117 : Cond.code (pm_nm pm_mm117) (pm_by pm_mm117) (pm_ml pm_mm117) (pm_re pm_mm117) ∈ lw_tbl := List.mem_append_right _ (List.mem_append_right _ (List.mem_append_right _ (List.mem_append_right _ (List.mem_append_left _ (List.mem_of_getElem? (i := 124) rfl)))))
set_option maxRecDepth 100000 in
theorem pm_kk118 : Cond.code (pm_nm pm_mm118) (pm_by pm_mm118) (pm_ml pm_mm118) (pm_re pm_mm118) ∈ lw_tbl := List.mem_append_right _ (List.mem_append_right _ (List.mem_append_right _ (List.mem_append_right _ (List.mem_append_left _ (List.mem_of_getElem? (i := 128) rfl)))))
set_option maxRecDepth 100000 in
theorem pm_kk119 : Cond.code (pm_nm pm_mm119) (pm_by pm_mm119) (pm_ml pm_mm119) (pm_re pm_mm119) ∈ lw_tbl := List.mem_append_right _ (List.mem_append_right _ (List.mem_append_right _ (List.mem_append_right _ (List.mem_append_left _ (List.mem_of_getElem? (i := 133) rfl)))))
theorem pm_gk5 : ∀ T ∈ pm_g5, pm_ps T ≠ 0 → Cond.code (pm_nm T) (pm_by T) (pm_ml T) (pm_re T) ∈ lw_tbl := List.forall_mem_cons.mpr ⟨fun _ => pm_kk100, List.forall_mem_cons.mpr ⟨fun _ => pm_kk101, List.forall_mem_cons.mpr ⟨fun _ => pm_kk102, List.forall_mem_cons.mpr ⟨fun _ => pm_kk103, List.forall_mem_cons.mpr ⟨fun _ => pm_kk104, List.forall_mem_cons.mpr ⟨fun _ => pm_kk105, List.forall_mem_cons.mpr ⟨fun _ => pm_kk106, List.forall_mem_cons.mpr ⟨fun _ => pm_kk107, List.forall_mem_cons.mpr ⟨fun _ => pm_kk108, List.forall_mem_cons.mpr ⟨fun _ => pm_kk109, List.forall_mem_cons.mpr ⟨fun _ => pm_kk110, List.forall_mem_cons.mpr ⟨fun _ => pm_kk111, List.forall_mem_cons.mpr ⟨fun _ => pm_kk112, List.forall_mem_cons.mpr ⟨fun _ => pm_kk113, List.forall_mem_cons.mpr ⟨fun _ => pm_kk114, List.forall_mem_cons.mpr ⟨fun _ => pm_kk115, List.forall_mem_cons.mpr ⟨fun _ => pm_kk116, List.forall_mem_cons.mpr ⟨fun _ => pm_kk117, List.forall_mem_cons.mpr ⟨fun _ => pm_kk118, List.forall_mem_cons.mpr ⟨fun _ => pm_kk119, fun _ h => absurd h List.not_mem_nil⟩⟩⟩⟩⟩⟩⟩⟩⟩⟩⟩⟩⟩⟩⟩⟩⟩⟩⟩⟩
theorem pm_gt5 : pm_g5.all pm_tck = true := by decide +kernel
theorem pm_dm100_0 : ((pm_cd pm_mm100).take 60).all (fun q => decide (decode (pm_by pm_mm100) q.1 = .ok q.2) && (pm_isw q.2.1 || decide (q.2.2 = pm_len q.2.1))) = true := by decide +kernel
theorem pm_dm100_1 : ((pm_cd pm_mm100).drop 60).all (fun q => decide (decode (pm_by pm_mm100) q.1 = .ok q.2) && (pm_isw q.2.1 || decide (q.2.2 = pm_len q.2.1))) = true := by decide +kernel
theorem pm_dm100 : pm_dck pm_mm100 = true := pm_all_cut 60 pm_dm100_0 (pm_dm100_1)
theorem pm_dm101 : pm_dck pm_mm101 = true := by decide +kernel
theorem pm_dm102 : pm_dck pm_mm102 = true := by decide +kernel
theorem pm_dm103 : pm_dck pm_mm103 = true := by decide +kernel
theorem pm_dm104 : pm_dck pm_mm104 = true := by decide +kernel
theorem pm_dm105 : pm_dck pm_mm105 = true := by decide +kernel
theorem pm_dm106 : pm_dck pm_mm106 = true := by decide +kernel
theorem pm_dm107 : pm_dck pm_mm107 = true := by decide +kernel
theorem pm_dm108 : pm_dck pm_mm108 = true := by decide +kernel
theorem pm_dm109 : pm_dck pm_mm109 = true := by decide +kernel
theorem pm_dm110 : pm_dck pm_mm110 = true := by decide +kernel
theorem pm_dm111 : pm_dck pm_mm111 = true := by decide +kernel
theorem pm_dm112 : pm_dck pm_mm112 = true := by decide +kernel
theorem pm_dm113 : pm_dck pm_mm113 = true := by decide +kernel
theorem pm_dm114 : pm_dck pm_mm114 = true := by decide +kernel
theorem pm_dm115 : pm_dck pm_mm115 = true := by decide +kernel
theorem pm_dm116 : pm_dck pm_mm116 = true := by decide +kernel
theorem pm_dm117 : pm_dck pm_mm117 = true := by decide +kernel
theorem pm_dm118 : pm_dck pm_mm118 = true := by decide +kernel
theorem pm_dm119 : pm_dck pm_mm119 = true := by decide +kernel
theorem pm_gd5 : pm_g5.all pm_dck = true := by
  unfold pm_g5
  simp only [List.all_cons, List.all_nil, Bool.and_true, pm_dm100, pm_dm101, pm_dm102, pm_dm103, pm_dm104, pm_dm105, pm_dm106, pm_dm107, pm_dm108, pm_dm109, pm_dm110, pm_dm111, pm_dm112, pm_dm113, pm_dm114, pm_dm115, pm_dm116, pm_dm117, pm_dm118, pm_dm119]
