/-! the methods of group 7: their words, their instructions -/
set_option maxRecDepth 100000 in
theorem pm_kk140 : Cond.code (pm_nm pm_mm140) (pm_by pm_mm140) (pm_ml pm_mm140) (pm_re pm_mm140) ∈ lw_tbl := List.mem_append_right _ (List.mem_append_right _ (List.mem_append_right _ (List.mem_append_right _ (List.mem_append_left _ (List.mem_of_getElem? (i := 221) rfl)))))
set_option maxRecDepth 100000 in
theorem pm_kk141 : Cond.code (pm_nm pm_mm141) (pm_by pm_mm141) (pm_ml pm_mm141) (pm_re pm_mm141) ∈ lw_tbl := List.mem_append_right _ (List.mem_append_right _ (List.mem_append_right _ (List.mem_append_right _ (List.mem_append_left _ (List.mem_of_getElem? (i := 225) rfl)))))
set_option maxRecDepth 100000 in
theorem pm_kk142 : Cond.code (pm_nm pm_mm142) (pm_by pm_mm142) (pm_ml pm_mm142) (pm_re pm_mm142) ∈ lw_tbl := List.mem_append_right _ (List.mem_append_right _ (List.mem_append_right _ (List.mem_append_right _ (List.mem_append_left _ (List.mem_of_getElem? (i := 229) rfl)))))
set_option maxRecDepth 100000 in
theorem pm_kk143 : Cond.code (pm_nm pm_mm143) (pm_by pm_mm143) (pm_ml pm_mm143) (pm_re pm_mm143) ∈ lw_tbl := List.mem_append_right _ (List.mem_append_right _ (List.mem_append_right _ (List.mem_append_right _ (List.mem_append_left _ (List.mem_of_getElem? (i := 234) rfl)))))
set_option maxRecDepth 100000 in
theorem pm_kk144 : Cond.code (pm_nm pm_mm144) (pm_by pm_mm144) (pm_ml pm_mm144) (pm_re pm_mm144) ∈ lw_tbl := List.mem_append_right _ (List.mem_append_right _ (List.mem_append_right _ (List.mem_append_right _ (List.mem_append_right _ (List.mem_append_left _ (List.mem_of_getElem? (i := 149) rfl))))))
set_option maxRecDepth 100000 in
theorem pm_kk145 : Cond.code (pm_nm pm_mm145) (pm_by pm_mm145) (pm_ml pm_mm145) (pm_re pm_mm145) ∈ lw_tbl := List.mem_append_right _ (List.mem_append_right _ (List.mem_append_right _ (List.mem_append_right _ (List.mem_append_right _ (List.mem_append_left _ (List.mem_of_getElem? (i := 153) rfl))))))
set_option maxRecDepth 100000 in
theorem pm_kk146 : Cond.code (pm_nm pm_mm146) (pm_by pm_mm146) (pm_ml pm_mm146) (pm_re pm_mm146) ∈ lw_tbl := List.mem_append_right _ (List.mem_append_right _ (List.mem_append_right _ (List.mem_append_right _ (List.mem_append_right _ (List.mem_append_left _ (List.mem_of_getElem? (i := 157) rfl))))))
set_option maxRecDepth 100000 in
theorem pm_kk147 : Cond.code (pm_nm pm_mm147) (pm_by pm_mm147) (pm_ml pm_mm147) (pm_re pm_mm147) ∈ lw_tbl := List.mem_append_right _ (List.mem_append_right _ (List.mem_append_right _ (List.mem_append_right _ (List.mem_append_right _ (List.mem_append_left _ (List.mem_of_getElem? (i := 160) rfl))))))
set_option maxRecDepth 100000 in
theorem pm_kk148 : Cond.code (pm_nm pm_mm148) (pm_by pm_mm148) (pm_ml pm_mm148) (pm_re pm_mm148) ∈ lw_tbl := List.mem_append_right _ (List.mem_append_right _ (List.mem_append_right _ (List.mem_append_right _ (List.mem_append_right _ (List.mem_append_left _ (List.mem_of_getElem? (i := 164) rfl))))))
set_option maxRecDepth 100000 in
theorem pm_kk149 : Cond.code (pm_nm pm_mm149) (pm_by pm_mm149) (pm_ml pm_mm149) (pm_re pm_mm149) ∈ lw_tbl := List.mem_append_right _ (List.mem_append_right _ (List.mem_append_right _ (List.mem_append_right _ (List.mem_append_right _ (List.mem_append_left _ (List.mem_of_getElem? (i := 168) rfl))))))
set_option maxRecDepth 100000 in
theorem pm_kk150 : Cond.code (pm_nm pm_mm150) (pm_by pm_mm150) (pm_ml pm_mm150) (pm_re pm_mm150) ∈ lw_tbl := List.mem_append_right _ (List.mem_append_right _ (List.mem_append_right _ (List.mem_append_right _ (List.mem_append_right _ (List.mem_append_left _ (List.mem_of_getElem? (i := 172) rfl))))))
set_option maxRecDepth 100000 in
theorem pm_kk151 : Cond.code (pm_nm pm_mm151) (pm_by pm_mm151) (pm_ml pm_mm151) (pm_re pm_mm151) ∈ lw_tbl := List.mem_append_right _ (List.mem_append_right _ (List.mem_append_right _ (List.mem_append_right _ (List.mem_append_right _ (List.mem_append_left _ (List.mem_of_getElem? (i := 176) rfl))))))
set_option maxRecDepth 100000 in
theorem pm_kk152 : Cond.code (pm_nm pm_mm152) (pm_by pm_mm152) (pm_ml pm_mm152) (pm_re pm_mm152) ∈ lw_tbl := List.mem_append_right _ (List.mem_append_right _ (List.mem_append_right _ (List.mem_append_right _ (List.mem_append_right _ (List.mem_append_left _ (List.mem_of_getElem? (i := 180) rfl))))))
set_option maxRecDepth 100000 in
theorem pm_kk153 : Cond.code (pm_nm pm_mm153) (pm_by pm_mm153) (pm_ml pm_mm153) (pm_re pm_mm153) ∈ lw_tbl := List.mem_append_right _ (List.mem_append_right _ (List.mem_append_right _ (List.mem_append_right _ (List.mem_append_right _ (List.mem_append_left _ (List.mem_of_getElem? (i := 188) rfl))))))
set_option maxRecDepth 100000 in
theorem pm_kk154 : Cond.code (pm_nm pm_mm154) (pm_by pm_mm154) (pm_ml pm_mm154) (pm_re pm_mm154) ∈ lw_tbl := List.mem_append_right _ (List.mem_append_right _ (List.mem_append_right _ (List.mem_append_right _ (List.mem_append_right _ (List.mem_append_left _ (List.mem_of_getElem? (i := 195) rfl))))))
set_option maxRecDepth 100000 in
theorem pm_kk155 : Cond.code (pm_nm pm_mm155) (pm_by pm_mm155) (pm_ml pm_mm155) (pm_re pm_mm155) ∈ lw_tbl := List.mem_append_right _ (List.mem_append_right _ (List.mem_append_right _ (List.mem_append_right _ (List.mem_append_right _ (List.mem_append_left _ (List.mem_of_getElem? (i := 199) rfl))))))
set_option maxRecDepth 100000 in
theorem pm_kk156 : Cond.code (pm_nm pm_mm156) (pm_by pm_mm156) (pm_ml pm_mm156) (pm_re pm_mm156) ∈ lw_tbl := List.mem_append_right _ (List.mem_append_right _ (List.mem_append_right _ (List.mem_append_right _ (List.mem_append_right _ (List.mem_append_left _ (List.mem_of_getElem? (i := 203) rfl))))))
set_option maxRecDepth 100000 in
theorem pm_kk157 : Cond.code (pm_nm pm_mm157) (pm_by pm_mm157) (pm_ml pm_mm157) (pm_re pm_mm157) ∈ lw_tbl := List.mem_append_right _ (List.mem_append_right _ (List.mem_append_right _ (List.mem_append_right _ (List.mem_append_right _ (List.mem_append_left _ (List.mem_of_getElem? (i := 207) rfl))))))
set_option maxRecDepth 100000 in
theorem pm_kk158 : Cond.code (pm_nm pm_mm158) (pm_by pm_mm158) (pm_ml pm_mm158) (pm_re pm_mm158) ∈ lw_tbl := List.mem_append_right _ (List.mem_append_right _ (List.mem_append_right _ (List.mem_append_right _ (List.mem_append_right _ (List.mem_append_left _ (List.mem_of_getElem? (i := 211) rfl))))))
set_option maxRecDepth 100000 in
theorem pm_kk159 : Cond.code (pm_nm pm_mm159) (pm_by pm_mm159) (pm_ml pm_mm159) (pm_re pm_mm159) ∈ lw_tbl := List.mem_append_right _ (List.mem_append_right _ (List.mem_append_right _ (List.mem_append_right _ (List.mem_append_right _ (List.mem_append_left _ (List.mem_of_getElem? (i := 215) rfl))))))
theorem pm_gk7 : ∀ T ∈ pm_g7, pm_ps T ≠ 0 → Cond.code (pm_nm T) (pm_by T) (pm_ml T) (pm_re T) ∈ lw_tbl := List.forall_mem_cons.mpr ⟨fun _ => pm_kk140, List.forall_mem_cons.mpr ⟨fun _ => pm_kk141, List.forall_mem_cons.mpr ⟨fun _ => pm_kk142, List.forall_mem_cons.mpr ⟨fun _ => pm_kk143, List.forall_mem_cons.mpr ⟨fun _ => pm_kk144, List.forall_mem_cons.mpr ⟨fun _ => pm_kk145, List.forall_mem_cons.mpr ⟨fun _ => pm_kk146, List.forall_mem_cons.mpr ⟨fun _ => pm_kk147, List.forall_mem_cons.mpr ⟨fun _ => pm_kk148, List.forall_mem_cons.mpr ⟨fun _ => pm_kk149, List.forall_mem_cons.mpr ⟨fun _ => pm_kk150, List.forall_mem_cons.mpr ⟨fun _ => pm_kk151, List.forall_mem_cons.mpr ⟨fun _ => pm_kk152, List.forall_mem_cons.mpr ⟨fun _ => pm_kk153, List.forall_mem_cons.mpr ⟨fun _ => pm_kk154, List.forall_mem_cons.mpr ⟨fun _ => pm_kk155, List.forall_mem_cons.mpr ⟨fun _ => pm_kk156, List.forall_mem_cons.mpr ⟨fun _ => pm_kk157, List.forall_mem_cons.mpr ⟨fun _ => pm_kk158, List.forall_mem_cons.mpr ⟨fun _ => pm_kk159, fun _ h => absurd h List.not_mem_nil⟩⟩⟩⟩⟩⟩⟩⟩⟩⟩⟩⟩⟩⟩⟩⟩⟩⟩⟩⟩
theorem pm_gt7 : pm_g7.all pm_tck = true := by decide +kernel
theorem pm_dm140 : pm_dck pm_mm140 = true := by decide +kernel
theorem pm_dm141 : pm_dck pm_mm141 = true := by decide +kernel
theorem pm_dm142 : pm_dck pm_mm142 = true := by decide +kernel
theorem pm_dm143_0 : ((pm_cd pm_mm143).take 60).all (fun q => decide (decode (pm_by pm_mm143) q.1 = .ok q.2) && (pm_isw q.2.1 || decide (q.2.2 = pm_len q.2.1))) = true := by decide +kernel
theorem pm_dm143_1 : (((pm_cd pm_mm143).drop 60).take 60).all (fun q => decide (decode (pm_by pm_mm143) q.1 = .ok q.2) && (pm_isw q.2.1 || decide (q.2.2 = pm_len q.2.1))) = true := by decide +kernel
theorem pm_dm143_2 : (((pm_cd pm_mm143).drop 60).drop 60).all (fun q => decide (decode (pm_by pm_mm143) q.1 = .ok q.2) && (pm_isw q.2.1 || decide (q.2.2 = pm_len q.2.1))) = true := by decide +kernel
theorem pm_dm143 : pm_dck pm_mm143 = true := pm_all_cut 60 pm_dm143_0 (pm_all_cut 60 pm_dm143_1 (pm_dm143_2))
theorem pm_dm144 : pm_dck pm_mm144 = true := by decide +kernel
theorem pm_dm145 : pm_dck pm_mm145 = true := by decide +kernel
theorem pm_dm146 : pm_dck pm_mm146 = true := by decide +kernel
theorem pm_dm147 : pm_dck pm_mm147 = true := by decide +kernel
theorem pm_dm148 : pm_dck pm_mm148 = true := by decide +kernel
theorem pm_dm149_0 : ((pm_cd pm_mm149).take 60).all (fun q => decide (decode (pm_by pm_mm149) q.1 = .ok q.2) && (pm_isw q.2.1 || decide (q.2.2 = pm_len q.2.1))) = true := by decide +kernel
theorem pm_dm149_1 : (((pm_cd pm_mm149).drop 60).take 60).all (fun q => decide (decode (pm_by pm_mm149) q.1 = .ok q.2) && (pm_isw q.2.1 || decide (q.2.2 = pm_len q.2.1))) = true := by decide +kernel
theorem pm_dm149_2 : (((pm_cd pm_mm149).drop 60).drop 60).all (fun q => decide (decode (pm_by pm_mm149) q.1 = .ok q.2) && (pm_isw q.2.1 || decide (q.2.2 = pm_len q.2.1))) = true := by decide +kernel
theorem pm_dm149 : pm_dck pm_mm149 = true := pm_all_cut 60 pm_dm149_0 (pm_all_cut 60 pm_dm149_1 (pm_dm149_2))
theorem pm_dm150 : pm_dck pm_mm150 = true := by decide +kernel
theorem pm_dm151_0 : ((pm_cd pm_mm151).take 60).all (fun q => decide (decode (pm_by pm_mm151) q.1 = .ok q.2) && (pm_isw q.2.1 || decide (q.2.2 = pm_len q.2.1))) = true := by decide +kernel
theorem pm_dm151_1 : (((pm_cd pm_mm151).drop 60).take 60).all (fun q => decide (decode (pm_by pm_mm151) q.1 = .ok q.2) && (pm_isw q.2.1 || decide (q.2.2 = pm_len q.2.1))) = true := by decide +kernel
theorem pm_dm151_2 : ((((pm_cd pm_mm151).drop 60).drop 60).take 60).all (fun q => decide (decode (pm_by pm_mm151) q.1 = .ok q.2) && (pm_isw q.2.1 || decide (q.2.2 = pm_len q.2.1))) = true := by decide +kernel
theorem pm_dm151_3 : ((((pm_cd pm_mm151).drop 60).drop 60).drop 60).all (fun q => decide (decode (pm_by pm_mm151) q.1 = .ok q.2) && (pm_isw q.2.1 || decide (q.2.2 = pm_len q.2.1))) = true := by decide +kernel
theorem pm_dm151 : pm_dck pm_mm151 = true := pm_all_cut 60 pm_dm151_0 (pm_all_cut 60 pm_dm151_1 (pm_all_cut 60 pm_dm151_2 (pm_dm151_3)))
theorem pm_dm152 : pm_dck pm_mm152 = true := by decide +kernel
theorem pm_dm153 : pm_dck pm_mm153 = true := by decide +kernel
theorem pm_dm154 : pm_dck pm_mm154 = true := by decide +kernel
theorem pm_dm155 : pm_dck pm_mm155 = true := by decide +kernel
theorem pm_dm156 : pm_dck pm_mm156 = true := by decide +kernel
theorem pm_dm157 : pm_dck pm_mm157 = true := by decide +kernel
theorem pm_dm158 : pm_dck pm_mm158 = true := by decide +kernel
theorem pm_dm159 : pm_dck pm_mm159 = true := by decide +kernel
theorem pm_gd7 : pm_g7.all pm_dck = true := by
  unfold pm_g7
  simp only [List.all_cons, List.all_nil, Bool.and_true, pm_dm140, pm_dm141, pm_dm142, pm_dm143, pm_dm144, pm_dm145, pm_dm146, pm_dm147, pm_dm148, pm_dm149, pm_dm150, pm_dm151, pm_dm152, pm_dm153, pm_dm154, pm_dm155, pm_dm156, pm_dm157, pm_dm158, pm_dm159]
