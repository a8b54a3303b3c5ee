/-! the methods of group 8: their words, their instructions -/
set_option maxRecDepth 100000 in
theorem pm_kk160 : Cond.code (pm_nm pm_mm160) (pm_by pm_mm160) (pm_ml pm_mm160) (pm_re pm_mm160) ∈ lw_tbl := List.mem_append_right _ (List.mem_append_right _ (List.mem_append_right _ (List.mem_append_right _ (List.mem_append_right _ (List.mem_append_left _ (List.mem_of_getElem? (i := 219) rfl))))))
set_option maxRecDepth 100000 in
theorem pm_kk161 : Cond.code (pm_nm pm_mm161) (pm_by pm_mm161) (pm_ml pm_mm161) (pm_re pm_mm161) ∈ lw_tbl := List.mem_append_right _ (List.mem_append_right _ (List.mem_append_right _ (List.mem_append_right _ (List.mem_append_right _ (List.mem_append_left _ (List.mem_of_getElem? (i := 223) rfl))))))
set_option maxRecDepth 100000 in
theorem pm_kk162 : Cond.code (pm_nm pm_mm162) (pm_by pm_mm162) (pm_ml pm_mm162) (pm_re pm_mm162) ∈ lw_tbl := List.mem_append_right _ (List.mem_append_right _ (List.mem_append_right _ (List.mem_append_right _ (List.mem_append_right _ (List.mem_append_left _ (List.mem_of_getElem? (i := 227) rfl))))))
set_option maxRecDepth 100000 in
theorem pm_kk163 : Cond.code (pm_nm pm_mm163) (pm_by pm_mm163) (pm_ml pm_mm163) (pm_re pm_mm163) ∈ lw_tbl := List.mem_append_right _ (List.mem_append_right _ (List.mem_append_right _ (List.mem_append_right _ (List.mem_append_right _ (List.mem_append_left _ (List.mem_of_getElem? (i := 231) rfl))))))
set_option maxRecDepth 100000 in
theorem pm_kk164 : Cond.code (pm_nm pm_mm164) (pm_by pm_mm164) (pm_ml pm_mm164) (pm_re pm_mm164) ∈ lw_tbl := List.mem_append_right _ (List.mem_append_right _ (List.mem_append_right _ (List.mem_append_right _ (List.mem_append_right _ (List.mem_append_left _ (List.mem_of_getElem? (i := 235) rfl))))))
set_option maxRecDepth 100000 in
theorem pm_kk165 : Cond.code (pm_nm pm_mm165) (pm_by pm_mm165) (pm_ml pm_mm165) (pm_re pm_mm165) ∈ lw_tbl := List.mem_append_right _ (List.mem_append_right _ (List.mem_append_right _ (List.mem_append_right _ (List.mem_append_right _ (List.mem_append_left _ (List.mem_of_getElem? (i := 239) rfl))))))
set_option maxRecDepth 100000 in
theorem pm_kk166 : Cond.code (pm_nm pm_mm166) (pm_by pm_mm166) (pm_ml pm_mm166) (pm_re pm_mm166) ∈ lw_tbl := List.mem_append_right _ (List.mem_append_right _ (List.mem_append_right _ (List.mem_append_right _ (List.mem_append_right _ (List.mem_append_right _ (List.mem_of_getElem? (i := 3) rfl))))))
set_option maxRecDepth 100000 in
theorem pm_kk167 : Cond.code (pm_nm pm_mm167) (pm_by pm_mm167) (pm_ml pm_mm167) (pm_re pm_mm167) ∈ lw_tbl := List.mem_append_right _ (List.mem_append_right _ (List.mem_append_right _ (List.mem_append_right _ (List.mem_append_right _ (List.mem_append_right _ (List.mem_of_getElem? (i := 7) rfl))))))
set_option maxRecDepth 100000 in
theorem pm_kk168 : Cond.code (pm_nm pm_mm168) (pm_by pm_mm168) (pm_ml pm_mm168) (pm_re pm_mm168) ∈ lw_tbl := List.mem_append_right _ (List.mem_append_right _ (List.mem_append_right _ (List.mem_append_right _ (List.mem_append_right _ (List.mem_append_right _ (List.mem_of_getElem? (i := 11) rfl))))))
set_option maxRecDepth 100000 in
theorem pm_kk169 : Cond.code (pm_nm pm_mm169) (pm_by pm_mm169) (pm_ml pm_mm169) (pm_re pm_mm169) ∈ lw_tbl := List.mem_append_right _ (List.mem_append_right _ (List.mem_append_right _ (List.mem_append_right _ (List.mem_append_right _ (List.mem_append_right _ (List.mem_of_getElem? (i := 15) rfl))))))
set_option maxRecDepth 100000 in
theorem pm_kk170 : Cond.code (pm_nm pm_mm170) (pm_by pm_mm170) (pm_ml pm_mm170) (pm_re pm_mm170) ∈ lw_tbl := List.mem_append_right _ (List.mem_append_right _ (List.mem_append_right _ (List.mem_append_right _ (List.mem_append_right _ (List.mem_append_right _ (List.mem_of_getElem? (i := 19) rfl))))))
set_option maxRecDepth 100000 in
theorem pm_kk171 : Cond.code (pm_nm pm_mm171) (pm_by pm_mm171) (pm_ml pm_mm171) (pm_re pm_mm171) ∈ lw_tbl := List.mem_append_right _ (List.mem_append_right _ (List.mem_append_right _ (List.mem_append_right _ (List.mem_append_right _ (List.mem_append_right _ (List.mem_of_getElem? (i := 23) rfl))))))
set_option maxRecDepth 100000 in
theorem pm_kk172 : Cond.code (pm_nm pm_mm172) (pm_by pm_mm172) (pm_ml pm_mm172) (pm_re pm_mm172) ∈ lw_tbl := List.mem_append_right _ (List.mem_append_right _ (List.mem_append_right _ (List.mem_append_right _ (List.mem_append_right _ (List.mem_append_right _ (List.mem_of_getElem? (i := 27) rfl))))))
set_option maxRecDepth 100000 in
theorem pm_kk173 : Cond.code (pm_nm pm_mm173) (pm_by pm_mm173) (pm_ml pm_mm173) (pm_re pm_mm173) ∈ lw_tbl := List.mem_append_right _ (List.mem_append_right _ (List.mem_append_right _ (List.mem_append_right _ (List.mem_append_right _ (List.mem_append_right _ (List.mem_of_getElem? (i := 31) rfl))))))
set_option maxRecDepth 100000 in
theorem pm_kk174 : Cond.code (pm_nm pm_mm174) (pm_by pm_mm174) (pm_ml pm_mm174) (pm_re pm_mm174) ∈ lw_tbl := List.mem_append_right _ (List.mem_append_right _ (List.mem_append_right _ (List.mem_append_right _ (List.mem_append_right _ (List.mem_append_right _ (List.mem_of_getElem? (i := 35) rfl))))))
set_option maxRecDepth 100000 in
theorem pm_kk175 : Cond.code (pm_nm pm_mm175) (pm_by pm_mm175) (pm_ml pm_mm175) (pm_re pm_mm175) ∈ lw_tbl := List.mem_append_right _ (List.mem_append_right _ (List.mem_append_right _ (List.mem_append_right _ (List.mem_append_right _ (List.mem_append_right _ (List.mem_of_getElem? (i := 39) rfl))))))
set_option maxRecDepth 100000 in
theorem pm_kk176 : Cond.code (pm_nm pm_mm176) (pm_by pm_mm176) (pm_ml pm_mm176) (pm_re pm_mm176) ∈ lw_tbl := List.mem_append_right _ (List.mem_append_right _ (List.mem_append_right _ (List.mem_append_right _ (List.mem_append_right _ (List.mem_append_right _ (List.mem_of_getElem? (i := 43) rfl))))))
set_option maxRecDepth 100000 in
theorem pm_kk177 : Cond.code (pm_nm pm_mm177) (pm_by pm_mm177) (pm_ml pm_mm177) (pm_re pm_mm177) ∈ lw_tbl := List.mem_append_right _ (List.mem_append_right _ (List.mem_append_right _ (List.mem_append_right _ (List.mem_append_right _ (List.mem_append_right _ (List.mem_of_getElem? (i := 47) rfl))))))
set_option maxRecDepth 100000 in
theorem pm_kk178 : Cond.code (pm_nm pm_mm178) (pm_by pm_mm178) (pm_ml pm_mm178) (pm_re pm_mm178) ∈ lw_tbl := List.mem_append_right _ (List.mem_append_right _ (List.mem_append_right _ (List.mem_append_right _ (List.mem_append_right _ (List.mem_append_right _ (List.mem_of_getElem? (i := 52) rfl))))))
set_option maxRecDepth 100000 in
theorem pm_kk179 : Cond.code (pm_nm pm_mm179) (pm_by pm_mm179) (pm_ml pm_mm179) (pm_re pm_mm179) ∈ lw_tbl := List.mem_append_right _ (List.mem_append_right _ (List.mem_append_right _ (List.mem_append_right _ (List.mem_append_right _ (List.mem_append_right _ (List.mem_of_getElem? (i := 56) rfl))))))
theorem pm_gk8 : ∀ T ∈ pm_g8, pm_ps T ≠ 0 → Cond.code (pm_nm T) (pm_by T) (pm_ml T) (pm_re T) ∈ lw_tbl := List.forall_mem_cons.mpr ⟨fun _ => pm_kk160, List.forall_mem_cons.mpr ⟨fun _ => pm_kk161, List.forall_mem_cons.mpr ⟨fun _ => pm_kk162, List.forall_mem_cons.mpr ⟨fun _ => pm_kk163, List.forall_mem_cons.mpr ⟨fun _ => pm_kk164, List.forall_mem_cons.mpr ⟨fun _ => pm_kk165, List.forall_mem_cons.mpr ⟨fun _ => pm_kk166, List.forall_mem_cons.mpr ⟨fun _ => pm_kk167, List.forall_mem_cons.mpr ⟨fun _ => pm_kk168, List.forall_mem_cons.mpr ⟨fun _ => pm_kk169, List.forall_mem_cons.mpr ⟨fun _ => pm_kk170, List.forall_mem_cons.mpr ⟨fun _ => pm_kk171, List.forall_mem_cons.mpr ⟨fun _ => pm_kk172, List.forall_mem_cons.mpr ⟨fun _ => pm_kk173, List.forall_mem_cons.mpr ⟨fun _ => pm_kk174, List.forall_mem_cons.mpr ⟨fun _ => pm_kk175, List.forall_mem_cons.mpr ⟨fun _ => pm_kk176, List.forall_mem_cons.mpr ⟨fun _ => pm_kk177, List.forall_mem_cons.mpr ⟨fun _ => pm_kk178, List.forall_mem_cons.mpr ⟨fun _ => pm_kk179, fun _ h => absurd h List.not_mem_nil⟩⟩⟩⟩⟩⟩⟩⟩⟩⟩⟩⟩⟩⟩⟩⟩⟩⟩⟩⟩
theorem pm_gt8 : pm_g8.all pm_tck = true := by decide +kernel
theorem pm_dm160 : pm_dck pm_mm160 = true := by decide +kernel
theorem pm_dm161 : pm_dck pm_mm161 = true := by decide +kernel
theorem pm_dm162 : pm_dck pm_mm162 = true := by decide +kernel
theorem pm_dm163 : pm_dck pm_mm163 = true := by decide +kernel
theorem pm_dm164 : pm_dck pm_mm164 = true := by decide +kernel
theorem pm_dm165 : pm_dck pm_mm165 = true := by decide +kernel
theorem pm_dm166 : pm_dck pm_mm166 = true := by decide +kernel
theorem pm_dm167 : pm_dck pm_mm167 = true := by decide +kernel
theorem pm_dm168 : pm_dck pm_mm168 = true := by decide +kernel
theorem pm_dm169_0 : ((pm_cd pm_mm169).take 60).all (fun q => decide (decode (pm_by pm_mm169) q.1 = .ok q.2) && (pm_isw q.2.1 || decide (q.2.2 = pm_len q.2.1))) = true := by decide +kernel
theorem pm_dm169_1 : (((pm_cd pm_mm169).drop 60).take 60).all (fun q => decide (decode (pm_by pm_mm169) q.1 = .ok q.2) && (pm_isw q.2.1 || decide (q.2.2 = pm_len q.2.1))) = true := by decide +kernel
theorem pm_dm169_2 : ((((pm_cd pm_mm169).drop 60).drop 60).take 60).all (fun q => decide (decode (pm_by pm_mm169) q.1 = .ok q.2) && (pm_isw q.2.1 || decide (q.2.2 = pm_len q.2.1))) = true := by decide +kernel
theorem pm_dm169_3 : ((((pm_cd pm_mm169).drop 60).drop 60).drop 60).all (fun q => decide (decode (pm_by pm_mm169) q.1 = .ok q.2) && (pm_isw q.2.1 || decide (q.2.2 = pm_len q.2.1))) = true := by decide +kernel
theorem pm_dm169 : pm_dck pm_mm169 = true := pm_all_cut 60 pm_dm169_0 (pm_all_cut 60 pm_dm169_1 (pm_all_cut 60 pm_dm169_2 (pm_dm169_3)))
theorem pm_dm170 : pm_dck pm_mm170 = true := by decide +kernel
theorem pm_dm171 : pm_dck pm_mm171 = true := by decide +kernel
theorem pm_dm172 : pm_dck pm_mm172 = true := by decide +kernel
theorem pm_dm173 : pm_dck pm_mm173 = true := by decide +kernel
theorem pm_dm174 : pm_dck pm_mm174 = true := by decide +kernel
theorem pm_dm175 : pm_dck pm_mm175 = true := by decide +kernel
theorem pm_dm176 : pm_dck pm_mm176 = true := by decide +kernel
theorem pm_dm177 : pm_dck pm_mm177 = true := by decide +kernel
theorem pm_dm178 : pm_dck pm_mm178 = true := by decide +kernel
theorem pm_dm179 : pm_dck pm_mm179 = true := by decide +kernel
theorem pm_gd8 : pm_g8.all pm_dck = true := by
  unfold pm_g8
  simp only [List.all_cons, List.all_nil, Bool.and_true, pm_dm160, pm_dm161, pm_dm162, pm_dm163, pm_dm164, pm_dm165, pm_dm166, pm_dm167, pm_dm168, pm_dm169, pm_dm170, pm_dm171, pm_dm172, pm_dm173, pm_dm174, pm_dm175, pm_dm176, pm_dm177, pm_dm178, pm_dm179]
