/-! the methods of group 10: their words, their instructions -/
set_option maxRecDepth 100000 in
theorem pm_kk200 : Cond.code (pm_nm pm_mm200) (pm_by pm_mm200) (pm_ml pm_mm200) (pm_re pm_mm200) ∈ lw_tbl := List.mem_append_right _ (List.mem_append_right _ (List.mem_append_right _ (List.mem_append_right _ (List.mem_append_right _ (List.mem_append_right _ (List.mem_of_getElem? (i := 141) rfl))))))
set_option maxRecDepth 100000 in
theorem pm_kk201 : Cond.code (pm_nm pm_mm201) (pm_by pm_mm201) (pm_ml pm_mm201) (pm_re pm_mm201) ∈ lw_tbl := List.mem_append_right _ (List.mem_append_right _ (List.mem_append_right _ (List.mem_append_right _ (List.mem_append_right _ (List.mem_append_right _ (List.mem_of_getElem? (i := 145) rfl))))))
set_option maxRecDepth 100000 in
theorem pm_kk202 : Cond.code (pm_nm pm_mm202) (pm_by pm_mm202) (pm_ml pm_mm202) (pm_re pm_mm202) ∈ lw_tbl := List.mem_append_right _ (List.mem_append_right _ (List.mem_append_right _ (List.mem_append_right _ (List.mem_append_right _ (List.mem_append_right _ (List.mem_of_getElem? (i := 149) rfl))))))
set_option maxRecDepth 100000 in
theorem pm_kk203 : Cond.code (pm_nm pm_mm203) (pm_by pm_mm203) (pm_ml pm_mm203) (pm_re pm_mm203) ∈ lw_tbl := List.mem_append_right _ (List.mem_append_right _ (List.mem_append_right _ (List.mem_append_right _ (List.mem_append_right _ (List.mem_append_right _ (List.mem_of_getElem? (i := 153) rfl))))))
set_option maxRecDepth 100000 in
theorem pm_kk204 : Cond.code (pm_nm pm_mm204) (pm_by pm_mm204) (pm_ml pm_mm204) (pm_re pm_mm204) ∈ lw_tbl := List.mem_append_right _ (List.mem_append_right _ (List.mem_append_right _ (List.mem_append_right _ (List.mem_append_right _ (List.mem_append_right _ (List.mem_of_getElem? (i := 157) rfl))))))
set_option maxRecDepth 100000 in
theorem pm_kk205 : Cond.code (pm_nm pm_mm205) (pm_by pm_mm205) (pm_ml pm_mm205) (pm_re pm_mm205) ∈ lw_tbl := List.mem_append_right _ (List.mem_append_right _ (List.mem_append_right _ (List.mem_append_right _ (List.mem_append_right _ (List.mem_append_right _ (List.mem_of_getElem? (i := 161) rfl))))))
set_option maxRecDepth 100000 in
theorem pm_kk206 : Cond.code (pm_nm pm_mm206) (pm_by pm_mm206) (pm_ml pm_mm206) (pm_re pm_mm206) ∈ lw_tbl := List.mem_append_right _ (List.mem_append_right _ (List.mem_append_right _ (List.mem_append_right _ (List.mem_append_right _ (List.mem_append_right _ (List.mem_of_getElem? (i := 165) rfl))))))
set_option maxRecDepth 100000 in
theorem pm_kk207 : Cond.code (pm_nm pm_mm207) (pm_by pm_mm207) (pm_ml pm_mm207) (pm_re pm_mm207) ∈ lw_tbl := List.mem_append_right _ (List.mem_append_right _ (List.mem_append_right _ (List.mem_append_right _ (List.mem_append_right _ (List.mem_append_right _ (List.mem_of_getElem? (i := 169) rfl))))))
set_option maxRecDepth 100000 in
theorem pm_kk208 : Cond.code (pm_nm pm_mm208) (pm_by pm_mm208) (pm_ml pm_mm208) (pm_re pm_mm208) ∈ lw_tbl := List.mem_append_right _ (List.mem_append_right _ (List.mem_append_right _ (List.mem_append_right _ (List.mem_append_right _ (List.mem_append_right _ (List.mem_of_getElem? (i := 173) rfl))))))
set_option maxRecDepth 100000 in
theorem pm_kk209 : Cond.code (pm_nm pm_mm209) (pm_by pm_mm209) (pm_ml pm_mm209) (pm_re pm_mm209) ∈ lw_tbl := List.mem_append_right _ (List.mem_append_right _ (List.mem_append_right _ (List.mem_append_right _ (List.mem_append_right _ (List.mem_append_right _ (List.mem_of_getElem? (i := 177) rfl))))))
set_option maxRecDepth 100000 in
theorem pm_kk210 : Cond.code (pm_nm pm_mm210) (pm_by pm_mm210) (pm_ml pm_mm210) (pm_re pm_mm210) ∈ lw_tbl := List.mem_append_right _ (List.mem_append_right _ (List.mem_append_right _ (List.mem_append_right _ (List.mem_append_right _ (List.mem_append_right _ (List.mem_of_getElem? (i := 181) rfl))))))
set_option maxRecDepth 100000 in
theorem pm_kk211 : Cond.code (pm_nm pm_mm211) (pm_by pm_mm211) (pm_ml pm_mm211) (pm_re pm_mm211) ∈ lw_tbl := List.mem_append_right _ (List.mem_append_right _ (List.mem_append_right _ (List.mem_append_right _ (List.mem_append_right _ (List.mem_append_right _ (List.mem_of_getElem? (i := 185) rfl))))))
set_option maxRecDepth 100000 in
theorem pm_kk212 : Cond.code (pm_nm pm_mm212) (pm_by pm_mm212) (pm_ml pm_mm212) (pm_re pm_mm212) ∈ lw_tbl := List.mem_append_right _ (List.mem_append_right _ (List.mem_append_right _ (List.mem_append_right _ (List.mem_append_right _ (List.mem_append_right _ (List.mem_of_getElem? (i := 189) rfl))))))
set_option maxRecDepth 100000 in
theorem pm_kk213 : Cond.code (pm_nm pm_mm213) (pm_by pm_mm213) (pm_ml pm_mm213) (pm_re pm_mm213) ∈ lw_tbl := List.mem_append_right _ (List.mem_append_right _ (List.mem_append_right _ (List.mem_append_right _ (List.mem_append_right _ (List.mem_append_right _ (List.mem_of_getElem? (i := 196) rfl))))))
set_option maxRecDepth 100000 in
theorem pm_kk214 : Cond.code (pm_nm pm_mm214) (pm_by pm_mm214) (pm_ml pm_mm214) (pm_re pm_mm214) ∈ lw_tbl := List.mem_append_right _ (List.mem_append_right _ (List.mem_append_right _ (List.mem_append_right _ (List.mem_append_right _ (List.mem_append_right _ (List.mem_of_getElem? (i := 200) rfl))))))
set_option maxRecDepth 100000 in
theorem pm_kk215 : Cond.code (pm_nm pm_mm215) (pm_by pm_mm215) (pm_ml pm_mm215) (pm_re pm_mm215) ∈ lw_tbl := List.mem_append_right _ (List.mem_append_right _ (List.mem_append_left _ (List.mem_of_getElem? (i := 47) rfl)))
set_option maxRecDepth 100000 in
theorem pm_kk216 : Cond.code (pm_nm pm_mm216) (pm_by pm_mm216) (pm_ml pm_mm216) (pm_re pm_mm216) ∈ lw_tbl := List.mem_append_right _ (List.mem_append_right _ (List.mem_append_left _ (List.mem_of_getElem? (i := 51) rfl)))
set_option maxRecDepth 100000 in
theorem pm_kk217 : Cond.code (pm_nm pm_mm217) (pm_by pm_mm217) (pm_ml pm_mm217) (pm_re pm_mm217) ∈ lw_tbl := List.mem_append_right _ (List.mem_append_right _ (List.mem_append_left _ (List.mem_of_getElem? (i := 55) rfl)))
set_option maxRecDepth 100000 in
theorem pm_kk218 : Cond.code (pm_nm pm_mm218) (pm_by pm_mm218) (pm_ml pm_mm218) (pm_re pm_mm218) ∈ lw_tbl := List.mem_append_right _ (List.mem_append_right _ (List.mem_append_left _ (List.mem_of_getElem? (i := 61) rfl)))
set_option maxRecDepth 100000 in
theorem pm_kk219 : Cond.code (pm_nm pm_mm219) (pm_by pm_mm219) (pm_ml pm_mm219) (pm_re pm_mm219) ∈ lw_tbl := List.mem_append_right _ (List.mem_append_right _ (List.mem_append_left _ (List.mem_of_getElem? (i := 65) rfl)))
theorem pm_gk10 : ∀ T ∈ pm_g10, pm_ps T ≠ 0 → Cond.code (pm_nm T) (pm_by T) (pm_ml T) (pm_re T) ∈ lw_tbl := List.forall_mem_cons.mpr ⟨fun _ => pm_kk200, List.forall_mem_cons.mpr ⟨fun _ => pm_kk201, List.forall_mem_cons.mpr ⟨fun _ => pm_kk202, List.forall_mem_cons.mpr ⟨fun _ => pm_kk203, List.forall_mem_cons.mpr ⟨fun _ => pm_kk204, List.forall_mem_cons.mpr ⟨fun _ => pm_kk205, List.forall_mem_cons.mpr ⟨fun _ => pm_kk206, List.forall_mem_cons.mpr ⟨fun _ => pm_kk207, List.forall_mem_cons.mpr ⟨fun _ => pm_kk208, List.forall_mem_cons.mpr ⟨fun _ => pm_kk209, List.forall_mem_cons.mpr ⟨fun _ => pm_kk210, List.forall_mem_cons.mpr ⟨fun _ => pm_kk211, List.forall_mem_cons.mpr ⟨fun _ => pm_kk212, List.forall_mem_cons.mpr ⟨fun _ => pm_kk213, List.forall_mem_cons.mpr ⟨fun _ => pm_kk214, List.forall_mem_cons.mpr ⟨fun _ => pm_kk215, List.forall_mem_cons.mpr ⟨fun _ => pm_kk216, List.forall_mem_cons.mpr ⟨fun _ => pm_kk217, List.forall_mem_cons.mpr ⟨fun _ => pm_kk218, List.forall_mem_cons.mpr ⟨fun _ => pm_kk219, fun _ h => absurd h List.not_mem_nil⟩⟩⟩⟩⟩⟩⟩⟩⟩⟩⟩⟩⟩⟩⟩⟩⟩⟩⟩⟩
theorem pm_gt10 : pm_g10.all pm_tck = true := by decide +kernel
theorem pm_dm200_0 : ((pm_cd pm_mm200).take 60).all (fun q => decide (decode (pm_by pm_mm200) q.1 = .ok q.2) && (pm_isw q.2.1 || decide (q.2.2 = pm_len q.2.1))) = true := by decide +kernel
theorem pm_dm200_1 : ((pm_cd pm_mm200).drop 60).all (fun q => decide (decode (pm_by pm_mm200) q.1 = .ok q.2) && (pm_isw q.2.1 || decide (q.2.2 = pm_len q.2.1))) = true := by decide +kernel
theorem pm_dm200 : pm_dck pm_mm200 = true := pm_all_cut 60 pm_dm200_0 (pm_dm200_1)
theorem pm_dm201 : pm_dck pm_mm201 = true := by decide +kernel
theorem pm_dm202 : pm_dck pm_mm202 = true := by decide +kernel
theorem pm_dm203_0 : ((pm_cd pm_mm203).take 60).all (fun q => decide (decode (pm_by pm_mm203) q.1 = .ok q.2) && (pm_isw q.2.1 || decide (q.2.2 = pm_len q.2.1))) = true := by decide +kernel
theorem pm_dm203_1 : (((pm_cd pm_mm203).drop 60).take 60).all (fun q => decide (decode (pm_by pm_mm203) q.1 = .ok q.2) && (pm_isw q.2.1 || decide (q.2.2 = pm_len q.2.1))) = true := by decide +kernel
theorem pm_dm203_2 : (((pm_cd pm_mm203).drop 60).drop 60).all (fun q => decide (decode (pm_by pm_mm203) q.1 = .ok q.2) && (pm_isw q.2.1 || decide (q.2.2 = pm_len q.2.1))) = true := by decide +kernel
theorem pm_dm203 : pm_dck pm_mm203 = true := pm_all_cut 60 pm_dm203_0 (pm_all_cut 60 pm_dm203_1 (pm_dm203_2))
theorem pm_dm204 : pm_dck pm_mm204 = true := by decide +kernel
theorem pm_dm205 : pm_dck pm_mm205 = true := by decide +kernel
theorem pm_dm206_0 : ((pm_cd pm_mm206).take 60).all (fun q => decide (decode (pm_by pm_mm206) q.1 = .ok q.2) && (pm_isw q.2.1 || decide (q.2.2 = pm_len q.2.1))) = true := by decide +kernel
theorem pm_dm206_1 : ((pm_cd pm_mm206).drop 60).all (fun q => decide (decode (pm_by pm_mm206) q.1 = .ok q.2) && (pm_isw q.2.1 || decide (q.2.2 = pm_len q.2.1))) = true := by decide +kernel
theorem pm_dm206 : pm_dck pm_mm206 = true := pm_all_cut 60 pm_dm206_0 (pm_dm206_1)
theorem pm_dm207 : pm_dck pm_mm207 = true := by decide +kernel
theorem pm_dm208 : pm_dck pm_mm208 = true := by decide +kernel
theorem pm_dm209_0 : ((pm_cd pm_mm209).take 60).all (fun q => decide (decode (pm_by pm_mm209) q.1 = .ok q.2) && (pm_isw q.2.1 || decide (q.2.2 = pm_len q.2.1))) = true := by decide +kernel
theorem pm_dm209_1 : (((pm_cd pm_mm209).drop 60).take 60).all (fun q => decide (decode (pm_by pm_mm209) q.1 = .ok q.2) && (pm_isw q.2.1 || decide (q.2.2 = pm_len q.2.1))) = true := by decide +kernel
theorem pm_dm209_2 : (((pm_cd pm_mm209).drop 60).drop 60).all (fun q => decide (decode (pm_by pm_mm209) q.1 = .ok q.2) && (pm_isw q.2.1 || decide (q.2.2 = pm_len q.2.1))) = true := by decide +kernel
theorem pm_dm209 : pm_dck pm_mm209 = true := pm_all_cut 60 pm_dm209_0 (pm_all_cut 60 pm_dm209_1 (pm_dm209_2))
theorem pm_dm210_0 : ((pm_cd pm_mm210).take 60).all (fun q => decide (decode (pm_by pm_mm210) q.1 = .ok q.2) && (pm_isw q.2.1 || decide (q.2.2 = pm_len q.2.1))) = true := by decide +kernel
theorem pm_dm210_1 : ((pm_cd pm_mm210).drop 60).all (fun q => decide (decode (pm_by pm_mm210) q.1 = .ok q.2) && (pm_isw q.2.1 || decide (q.2.2 = pm_len q.2.1))) = true := by decide +kernel
theorem pm_dm210 : pm_dck pm_mm210 = true := pm_all_cut 60 pm_dm210_0 (pm_dm210_1)
theorem pm_dm211 : pm_dck pm_mm211 = true := by decide +kernel
theorem pm_dm212_0 : ((pm_cd pm_mm212).take 60).all (fun q => decide (decode (pm_by pm_mm212) q.1 = .ok q.2) && (pm_isw q.2.1 || decide (q.2.2 = pm_len q.2.1))) = true := by decide +kernel
theorem pm_dm212_1 : ((pm_cd pm_mm212).drop 60).all (fun q => decide (decode (pm_by pm_mm212) q.1 = .ok q.2) && (pm_isw q.2.1 || decide (q.2.2 = pm_len q.2.1))) = true := by decide +kernel
theorem pm_dm212 : pm_dck pm_mm212 = true := pm_all_cut 60 pm_dm212_0 (pm_dm212_1)
theorem pm_dm213 : pm_dck pm_mm213 = true := by decide +kernel
theorem pm_dm214 : pm_dck pm_mm214 = true := by decide +kernel
theorem pm_dm215 : pm_dck pm_mm215 = true := by decide +kernel
theorem pm_dm216 : pm_dck pm_mm216 = true := by decide +kernel
theorem pm_dm217 : pm_dck pm_mm217 = true := by decide +kernel
theorem pm_dm218 : pm_dck pm_mm218 = true := by decide +kernel
theorem pm_dm219 : pm_dck pm_mm219 = true := by decide +kernel
theorem pm_gd10 : pm_g10.all pm_dck = true := by
  unfold pm_g10
  simp only [List.all_cons, List.all_nil, Bool.and_true, pm_dm200, pm_dm201, pm_dm202, pm_dm203, pm_dm204, pm_dm205, pm_dm206, pm_dm207, pm_dm208, pm_dm209, pm_dm210, pm_dm211, pm_dm212, pm_dm213, pm_dm214, pm_dm215, pm_dm216, pm_dm217, pm_dm218, pm_dm219]
