/-! the methods of group 9: their words, their instructions -/
set_option maxRecDepth 100000 in
theorem pm_kk180 : Cond.code (pm_nm pm_mm180) (pm_by pm_mm180) (pm_ml pm_mm180) (pm_re pm_mm180) ∈ lw_tbl := List.mem_append_right _ (List.mem_append_right _ (List.mem_append_right _ (List.mem_append_right _ (List.mem_append_right _ (List.mem_append_right _ (List.mem_of_getElem? (i := 60) rfl))))))
set_option maxRecDepth 100000 in
theorem pm_kk181 : Cond.code (pm_nm pm_mm181) (pm_by pm_mm181) (pm_ml pm_mm181) (pm_re pm_mm181) ∈ lw_tbl := List.mem_append_right _ (List.mem_append_right _ (List.mem_append_right _ (List.mem_append_right _ (List.mem_append_right _ (List.mem_append_right _ (List.mem_of_getElem? (i := 64) rfl))))))
set_option maxRecDepth 100000 in
theorem pm_kk182 : Cond.code (pm_nm pm_mm182) (pm_by pm_mm182) (pm_ml pm_mm182) (pm_re pm_mm182) ∈ lw_tbl := List.mem_append_right _ (List.mem_append_right _ (List.mem_append_right _ (List.mem_append_right _ (List.mem_append_right _ (List.mem_append_right _ (List.mem_of_getElem? (i := 68) rfl))))))
set_option maxRecDepth 100000 in
theorem pm_kk183 : Cond.code (pm_nm pm_mm183) (pm_by pm_mm183) (pm_ml pm_mm183) (pm_re pm_mm183) ∈ lw_tbl := List.mem_append_right _ (List.mem_append_right _ (List.mem_append_right _ (List.mem_append_right _ (List.mem_append_right _ (List.mem_append_right _ (List.mem_of_getElem? (i := 72) rfl))))))
set_option maxRecDepth 100000 in
theorem pm_kk184 : Cond.code (pm_nm pm_mm184) (pm_by pm_mm184) (pm_ml pm_mm184) (pm_re pm_mm184) ∈ lw_tbl := List.mem_append_right _ (List.mem_append_right _ (List.mem_append_right _ (List.mem_append_right _ (List.mem_append_right _ (List.mem_append_right _ (List.mem_of_getElem? (i := 76) rfl))))))
set_option maxRecDepth 100000 in
theorem pm_kk185 : Cond.code (pm_nm pm_mm185) (pm_by pm_mm185) (pm_ml pm_mm185) (pm_re pm_mm185) ∈ lw_tbl := List.mem_append_right _ (List.mem_append_right _ (List.mem_append_right _ (List.mem_append_right _ (List.mem_append_right _ (List.mem_append_right _ (List.mem_of_getElem? (i := 80) rfl))))))
set_option maxRecDepth 100000 in
theorem pm_kk186 : Cond.code (pm_nm pm_mm186) (pm_by pm_mm186) (pm_ml pm_mm186) (pm_re pm_mm186) ∈ lw_tbl := List.mem_append_right _ (List.mem_append_right _ (List.mem_append_right _ (List.mem_append_right _ (List.mem_append_right _ (List.mem_append_right _ (List.mem_of_getElem? (i := 84) rfl))))))
set_option maxRecDepth 100000 in
theorem pm_kk187 : Cond.code (pm_nm pm_mm187) (pm_by pm_mm187) (pm_ml pm_mm187) (pm_re pm_mm187) ∈ lw_tbl := List.mem_append_right _ (List.mem_append_right _ (List.mem_append_right _ (List.mem_append_right _ (List.mem_append_right _ (List.mem_append_right _ (List.mem_of_getElem? (i := 88) rfl))))))
set_option maxRecDepth 100000 in
theorem pm_kk188 : Cond.code (pm_nm pm_mm188) (pm_by pm_mm188) (pm_ml pm_mm188) (pm_re pm_mm188) ∈ lw_tbl := List.mem_append_right _ (List.mem_append_right _ (List.mem_append_right _ (List.mem_append_right _ (List.mem_append_right _ (List.mem_append_right _ (List.mem_of_getElem? (i := 92) rfl))))))
set_option maxRecDepth 100000 in
theorem pm_kk189 : Cond.code (pm_nm pm_mm189) (pm_by pm_mm189) (pm_ml pm_mm189) (pm_re pm_mm189) ∈ lw_tbl := List.mem_append_right _ (List.mem_append_right _ (List.mem_append_right _ (List.mem_append_right _ (List.mem_append_right _ (List.mem_append_right _ (List.mem_of_getElem? (i := 96) rfl))))))
set_option maxRecDepth 100000 in
theorem pm_kk190 : Cond.code (pm_nm pm_mm190) (pm_by pm_mm190) (pm_ml pm_mm190) (pm_re pm_mm190) ∈ lw_tbl := List.mem_append_right _ (List.mem_append_right _ (List.mem_append_right _ (List.mem_append_right _ (List.mem_append_right _ (List.mem_append_right _ (List.mem_of_getElem? (i := 101) rfl))))))
set_option maxRecDepth 100000 in
theorem pm_kk191 : Cond.code (pm_nm pm_mm191) (pm_by pm_mm191) (pm_ml pm_mm191) (pm_re pm_mm191) ∈ lw_tbl := List.mem_append_right _ (List.mem_append_right _ (List.mem_append_right _ (List.mem_append_right _ (List.mem_append_right _ (List.mem_append_right _ (List.mem_of_getElem? (i := 105) rfl))))))
set_option maxRecDepth 100000 in
theorem pm_kk192 : Cond.code (pm_nm pm_mm192) (pm_by pm_mm192) (pm_ml pm_mm192) (pm_re pm_mm192) ∈ lw_tbl := List.mem_append_right _ (List.mem_append_right _ (List.mem_append_right _ (List.mem_append_right _ (List.mem_append_right _ (List.mem_append_right _ (List.mem_of_getElem? (i := 109) rfl))))))
set_option maxRecDepth 100000 in
theorem pm_kk193 : Cond.code (pm_nm pm_mm193) (pm_by pm_mm193) (pm_ml pm_mm193) (pm_re pm_mm193) ∈ lw_tbl := List.mem_append_right _ (List.mem_append_right _ (List.mem_append_right _ (List.mem_append_right _ (List.mem_append_right _ (List.mem_append_right _ (List.mem_of_getElem? (i := 113) rfl))))))
set_option maxRecDepth 100000 in
theorem pm_kk194 : Cond.code (pm_nm pm_mm194) (pm_by pm_mm194) (pm_ml pm_mm194) (pm_re pm_mm194) ∈ lw_tbl := List.mem_append_right _ (List.mem_append_right _ (List.mem_append_right _ (List.mem_append_right _ (List.mem_append_right _ (List.mem_append_right _ (List.mem_of_getElem? (i := 117) rfl))))))
set_option maxRecDepth 100000 in
theorem pm_kk195 : Cond.code (pm_nm pm_mm195) (pm_by pm_mm195) (pm_ml pm_mm195) (pm_re pm_mm195) ∈ lw_tbl := List.mem_append_right _ (List.mem_append_right _ (List.mem_append_right _ (List.mem_append_right _ (List.mem_append_right _ (List.mem_append_right _ (List.mem_of_getElem? (i := 121) rfl))))))
set_option maxRecDepth 100000 in
theorem pm_kk196 : Cond.code (pm_nm pm_mm196) (pm_by pm_mm196) (pm_ml pm_mm196) (pm_re pm_mm196) ∈ lw_tbl := List.mem_append_right _ (List.mem_append_right _ (List.mem_append_right _ (List.mem_append_right _ (List.mem_append_right _ (List.mem_append_right _ (List.mem_of_getElem? (i := 125) rfl))))))
set_option maxRecDepth 100000 in
theorem pm_kk197 : Cond.code (pm_nm pm_mm197) (pm_by pm_mm197) (pm_ml pm_mm197) (pm_re pm_mm197) ∈ lw_tbl := List.mem_append_right _ (List.mem_append_right _ (List.mem_append_right _ (List.mem_append_right _ (List.mem_append_right _ (List.mem_append_right _ (List.mem_of_getElem? (i := 129) rfl))))))
set_option maxRecDepth 100000 in
theorem pm_kk198 : Cond.code (pm_nm pm_mm198) (pm_by pm_mm198) (pm_ml pm_mm198) (pm_re pm_mm198) ∈ lw_tbl := List.mem_append_right _ (List.mem_append_right _ (List.mem_append_right _ (List.mem_append_right _ (List.mem_append_right _ (List.mem_append_right _ (List.mem_of_getElem? (i := 133) rfl))))))
set_option maxRecDepth 100000 in
theorem pm_kk199 : Cond.code (pm_nm pm_mm199) (pm_by pm_mm199) (pm_ml pm_mm199) (pm_re pm_mm199) ∈ lw_tbl := List.mem_append_right _ (List.mem_append_right _ (List.mem_append_right _ (List.mem_append_right _ (List.mem_append_right _ (List.mem_append_right _ (List.mem_of_getElem? (i := 137) rfl))))))
theorem pm_gk9 : ∀ T ∈ pm_g9, pm_ps T ≠ 0 → Cond.code (pm_nm T) (pm_by T) (pm_ml T) (pm_re T) ∈ lw_tbl := List.forall_mem_cons.mpr ⟨fun _ => pm_kk180, List.forall_mem_cons.mpr ⟨fun _ => pm_kk181, List.forall_mem_cons.mpr ⟨fun _ => pm_kk182, List.forall_mem_cons.mpr ⟨fun _ => pm_kk183, List.forall_mem_cons.mpr ⟨fun _ => pm_kk184, List.forall_mem_cons.mpr ⟨fun _ => pm_kk185, List.forall_mem_cons.mpr ⟨fun _ => pm_kk186, List.forall_mem_cons.mpr ⟨fun _ => pm_kk187, List.forall_mem_cons.mpr ⟨fun _ => pm_kk188, List.forall_mem_cons.mpr ⟨fun _ => pm_kk189, List.forall_mem_cons.mpr ⟨fun _ => pm_kk190, List.forall_mem_cons.mpr ⟨fun _ => pm_kk191, List.forall_mem_cons.mpr ⟨fun _ => pm_kk192, List.forall_mem_cons.mpr ⟨fun _ => pm_kk193, List.forall_mem_cons.mpr ⟨fun _ => pm_kk194, List.forall_mem_cons.mpr ⟨fun _ => pm_kk195, List.forall_mem_cons.mpr ⟨fun _ => pm_kk196, List.forall_mem_cons.mpr ⟨fun _ => pm_kk197, List.forall_mem_cons.mpr ⟨fun _ => pm_kk198, List.forall_mem_cons.mpr ⟨fun _ => pm_kk199, fun _ h => absurd h List.not_mem_nil⟩⟩⟩⟩⟩⟩⟩⟩⟩⟩⟩⟩⟩⟩⟩⟩⟩⟩⟩⟩
theorem pm_gt9 : pm_g9.all pm_tck = true := by decide +kernel
theorem pm_dm180 : pm_dck pm_mm180 = true := by decide +kernel
theorem pm_dm181 : pm_dck pm_mm181 = true := by decide +kernel
theorem pm_dm182 : pm_dck pm_mm182 = true := by decide +kernel
theorem pm_dm183 : pm_dck pm_mm183 = true := by decide +kernel
theorem pm_dm184 : pm_dck pm_mm184 = true := by decide +kernel
theorem pm_dm185 : pm_dck pm_mm185 = true := by decide +kernel
theorem pm_dm186_0 : ((pm_cd pm_mm186).take 60).all (fun q => decide (decode (pm_by pm_mm186) q.1 = .ok q.2) && (pm_isw q.2.1 || decide (q.2.2 = pm_len q.2.1))) = true := by decide +kernel
theorem pm_dm186_1 : (((pm_cd pm_mm186).drop 60).take 60).all (fun q => decide (decode (pm_by pm_mm186) q.1 = .ok q.2) && (pm_isw q.2.1 || decide (q.2.2 = pm_len q.2.1))) = true := by decide +kernel
theorem pm_dm186_2 : (((pm_cd pm_mm186).drop 60).drop 60).all (fun q => decide (decode (pm_by pm_mm186) q.1 = .ok q.2) && (pm_isw q.2.1 || decide (q.2.2 = pm_len q.2.1))) = true := by decide +kernel
theorem pm_dm186 : pm_dck pm_mm186 = true := pm_all_cut 60 pm_dm186_0 (pm_all_cut 60 pm_dm186_1 (pm_dm186_2))
theorem pm_dm187 : pm_dck pm_mm187 = true := by decide +kernel
theorem pm_dm188 : pm_dck pm_mm188 = true := by decide +kernel
theorem pm_dm189 : pm_dck pm_mm189 = true := by decide +kernel
theorem pm_dm190 : pm_dck pm_mm190 = true := by decide +kernel
theorem pm_dm191 : pm_dck pm_mm191 = true := by decide +kernel
theorem pm_dm192 : pm_dck pm_mm192 = true := by decide +kernel
theorem pm_dm193 : pm_dck pm_mm193 = true := by decide +kernel
theorem pm_dm194 : pm_dck pm_mm194 = true := by decide +kernel
theorem pm_dm195_0 : ((pm_cd pm_mm195).take 60).all (fun q => decide (decode (pm_by pm_mm195) q.1 = .ok q.2) && (pm_isw q.2.1 || decide (q.2.2 = pm_len q.2.1))) = true := by decide +kernel
theorem pm_dm195_1 : (((pm_cd pm_mm195).drop 60).take 60).all (fun q => decide (decode (pm_by pm_mm195) q.1 = .ok q.2) && (pm_isw q.2.1 || decide (q.2.2 = pm_len q.2.1))) = true := by decide +kernel
theorem pm_dm195_2 : (((pm_cd pm_mm195).drop 60).drop 60).all (fun q => decide (decode (pm_by pm_mm195) q.1 = .ok q.2) && (pm_isw q.2.1 || decide (q.2.2 = pm_len q.2.1))) = true := by decide +kernel
theorem pm_dm195 : pm_dck pm_mm195 = true := pm_all_cut 60 pm_dm195_0 (pm_all_cut 60 pm_dm195_1 (pm_dm195_2))
theorem pm_dm196 : pm_dck pm_mm196 = true := by decide +kernel
theorem pm_dm197 : pm_dck pm_mm197 = true := by decide +kernel
theorem pm_dm198 : pm_dck pm_mm198 = true := by decide +kernel
theorem pm_dm199 : pm_dck pm_mm199 = true := by decide +kernel
theorem pm_gd9 : pm_g9.all pm_dck = true := by
  unfold pm_g9
  simp only [List.all_cons, List.all_nil, Bool.and_true, pm_dm180, pm_dm181, pm_dm182, pm_dm183, pm_dm184, pm_dm185, pm_dm186, pm_dm187, pm_dm188, pm_dm189, pm_dm190, pm_dm191, pm_dm192, pm_dm193, pm_dm194, pm_dm195, pm_dm196, pm_dm197, pm_dm198, pm_dm199]
