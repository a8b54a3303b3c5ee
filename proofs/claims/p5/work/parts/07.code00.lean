/-! the methods of group 0: their words, their instructions -/
theorem pm_all_cut {α : Type} {f : α → Bool} {l : List α} (n : Nat) (h1 : (l.take n).all f = true) (h2 : (l.drop n).all f = true) : l.all f = true := by
  rw [← List.take_append_drop n l, List.all_append, h1, h2]
  rfl
set_option maxRecDepth 100000 in
theorem pm_kk1 : Cond.code (pm_nm pm_mm1) (pm_by pm_mm1) (pm_ml pm_mm1) (pm_re pm_mm1) ∈ lw_tbl := List.mem_append_right _ (List.mem_append_left _ (List.mem_of_getElem? (i := 22) rfl))
set_option maxRecDepth 100000 in
theorem pm_kk2 : Cond.code (pm_nm pm_mm2) (pm_by pm_mm2) (pm_ml pm_mm2) (pm_re pm_mm2) ∈ lw_tbl := List.mem_append_right _ (List.mem_append_left _ (List.mem_of_getElem? (i := 30) rfl))
set_option maxRecDepth 100000 in
theorem pm_kk3 : Cond.code (pm_nm pm_mm3) (pm_by pm_mm3) (pm_ml pm_mm3) (pm_re pm_mm3) ∈ lw_tbl := List.mem_append_right _ (List.mem_append_left _ (List.mem_of_getElem? (i := 47) rfl))
set_option maxRecDepth 100000 in
theorem pm_kk4 : Cond.code (pm_nm pm_mm4) (pm_by pm_mm4) (pm_ml pm_mm4) (pm_re pm_mm4) ∈ lw_tbl := List.mem_append_right _ (List.mem_append_left _ (List.mem_of_getElem? (i := 77) rfl))
set_option maxRecDepth 100000 in
theorem pm_kk5 : Cond.code (pm_nm pm_mm5) (pm_by pm_mm5) (pm_ml pm_mm5) (pm_re pm_mm5) ∈ lw_tbl := List.mem_append_right _ (List.mem_append_left _ (List.mem_of_getElem? (i := 90) rfl))
set_option maxRecDepth 100000 in
theorem pm_kk6 : Cond.code (pm_nm pm_mm6) (pm_by pm_mm6) (pm_ml pm_mm6) (pm_re pm_mm6) ∈ lw_tbl := List.mem_append_right _ (List.mem_append_left _ (List.mem_of_getElem? (i := 137) rfl))
set_option maxRecDepth 100000 in
theorem pm_kk7 : Cond.code (pm_nm pm_mm7) (pm_by pm_mm7) (pm_ml pm_mm7) (pm_re pm_mm7) ∈ lw_tbl := List.mem_append_right _ (List.mem_append_left _ (List.mem_of_getElem? (i := 162) rfl))
set_option maxRecDepth 100000 in
theorem pm_kk8 : Cond.code (pm_nm pm_mm8) (pm_by pm_mm8) (pm_ml pm_mm8) (pm_re pm_mm8) ∈ lw_tbl := List.mem_append_right _ (List.mem_append_left _ (List.mem_of_getElem? (i := 216) rfl))
set_option maxRecDepth 100000 in
theorem pm_kk9 : Cond.code (pm_nm pm_mm9) (pm_by pm_mm9) (pm_ml pm_mm9) (pm_re pm_mm9) ∈ lw_tbl := List.mem_append_right _ (List.mem_append_left _ (List.mem_of_getElem? (i := 220) rfl))
set_option maxRecDepth 100000 in
theorem pm_kk10 : Cond.code (pm_nm pm_mm10) (pm_by pm_mm10) (pm_ml pm_mm10) (pm_re pm_mm10) ∈ lw_tbl := List.mem_append_right _ (List.mem_append_left _ (List.mem_of_getElem? (i := 224) rfl))
set_option maxRecDepth 100000 in
theorem pm_kk11 : Cond.code (pm_nm pm_mm11) (pm_by pm_mm11) (pm_ml pm_mm11) (pm_re pm_mm11) ∈ lw_tbl := List.mem_append_right _ (List.mem_append_left _ (List.mem_of_getElem? (i := 228) rfl))
set_option maxRecDepth 100000 in
theorem pm_kk12 : Cond.code (pm_nm pm_mm12) (pm_by pm_mm12) (pm_ml pm_mm12) (pm_re pm_mm12) ∈ lw_tbl := List.mem_append_right _ (List.mem_append_left _ (List.mem_of_getElem? (i := 232) rfl))
set_option maxRecDepth 100000 in
theorem pm_kk13 : Cond.code (pm_nm pm_mm13) (pm_by pm_mm13) (pm_ml pm_mm13) (pm_re pm_mm13) ∈ lw_tbl := List.mem_append_right _ (List.mem_append_left _ (List.mem_of_getElem? (i := 236) rfl))
set_option maxRecDepth 100000 in
theorem pm_kk14 : Cond.code (pm_nm pm_mm14) (pm_by pm_mm14) (pm_ml pm_mm14) (pm_re pm_mm14) ∈ lw_tbl := List.mem_append_right _ (List.mem_append_right _ (List.mem_append_left _ (List.mem_of_getElem? (i := 0) rfl)))
set_option maxRecDepth 100000 in
theorem pm_kk15 : Cond.code (pm_nm pm_mm15) (pm_by pm_mm15) (pm_ml pm_mm15) (pm_re pm_mm15) ∈ lw_tbl := List.mem_append_right _ (List.mem_append_right _ (List.mem_append_left _ (List.mem_of_getElem? (i := 4) rfl)))
set_option maxRecDepth 100000 in
theorem pm_kk16 : Cond.code (pm_nm pm_mm16) (pm_by pm_mm16) (pm_ml pm_mm16) (pm_re pm_mm16) ∈ lw_tbl := List.mem_append_right _ (List.mem_append_right _ (List.mem_append_left _ (List.mem_of_getElem? (i := 8) rfl)))
set_option maxRecDepth 100000 in
theorem pm_kk17 : Cond.code (pm_nm pm_mm17) (pm_by pm_mm17) (pm_ml pm_mm17) (pm_re pm_mm17) ∈ lw_tbl := List.mem_append_right _ (List.mem_append_right _ (List.mem_append_left _ (List.mem_of_getElem? (i := 12) rfl)))
set_option maxRecDepth 100000 in
theorem pm_kk18 : Cond.code (pm_nm pm_mm18) (pm_by pm_mm18) (pm_ml pm_mm18) (pm_re pm_mm18) ∈ lw_tbl := List.mem_append_right _ (List.mem_append_right _ (List.mem_append_left _ (List.mem_of_getElem? (i := 16) rfl)))
set_option maxRecDepth 100000 in
theorem pm_kk19 : Cond.code (pm_nm pm_mm19) (pm_by pm_mm19) (pm_ml pm_mm19) (pm_re pm_mm19) ∈ lw_tbl := List.mem_append_right _ (List.mem_append_right _ (List.mem_append_left _ (List.mem_of_getElem? (i := 20) rfl)))
theorem pm_gk0 : ∀ T ∈ pm_g0, pm_ps T ≠ 0 → Cond.code (pm_nm T) (pm_by T) (pm_ml T) (pm_re T) ∈ lw_tbl := List.forall_mem_cons.mpr ⟨fun h => absurd rfl h, List.forall_mem_cons.mpr ⟨fun _ => pm_kk1, List.forall_mem_cons.mpr ⟨fun _ => pm_kk2, List.forall_mem_cons.mpr ⟨fun _ => pm_kk3, List.forall_mem_cons.mpr ⟨fun _ => pm_kk4, List.forall_mem_cons.mpr ⟨fun _ => pm_kk5, List.forall_mem_cons.mpr ⟨fun _ => pm_kk6, List.forall_mem_cons.mpr ⟨fun _ => pm_kk7, List.forall_mem_cons.mpr ⟨fun _ => pm_kk8, List.forall_mem_cons.mpr ⟨fun _ => pm_kk9, List.forall_mem_cons.mpr ⟨fun _ => pm_kk10, List.forall_mem_cons.mpr ⟨fun _ => pm_kk11, List.forall_mem_cons.mpr ⟨fun _ => pm_kk12, List.forall_mem_cons.mpr ⟨fun _ => pm_kk13, List.forall_mem_cons.mpr ⟨fun _ => pm_kk14, List.forall_mem_cons.mpr ⟨fun _ => pm_kk15, List.forall_mem_cons.mpr ⟨fun _ => pm_kk16, List.forall_mem_cons.mpr ⟨fun _ => pm_kk17, List.forall_mem_cons.mpr ⟨fun _ => pm_kk18, List.forall_mem_cons.mpr ⟨fun _ => pm_kk19, fun _ h => absurd h List.not_mem_nil⟩⟩⟩⟩⟩⟩⟩⟩⟩⟩⟩⟩⟩⟩⟩⟩⟩⟩⟩⟩
theorem pm_gt0 : pm_g0.all pm_tck = true := by decide +kernel
theorem pm_dm0_0 : ((pm_cd pm_mm0).take 60).all (fun q => decide (decode (pm_by pm_mm0) q.1 = .ok q.2) && (pm_isw q.2.1 || decide (q.2.2 = pm_len q.2.1))) = true := by decide +kernel
theorem pm_dm0_1 : (((pm_cd pm_mm0).drop 60).take 60).all (fun q => decide (decode (pm_by pm_mm0) q.1 = .ok q.2) && (pm_isw q.2.1 || decide (q.2.2 = pm_len q.2.1))) = true := by decide +kernel
theorem pm_dm0_2 : ((((pm_cd pm_mm0).drop 60).drop 60).take 60).all (fun q => decide (decode (pm_by pm_mm0) q.1 = .ok q.2) && (pm_isw q.2.1 || decide (q.2.2 = pm_len q.2.1))) = true := by decide +kernel
theorem pm_dm0_3 : (((((pm_cd pm_mm0).drop 60).drop 60).drop 60).take 60).all (fun q => decide (decode (pm_by pm_mm0) q.1 = .ok q.2) && (pm_isw q.2.1 || decide (q.2.2 = pm_len q.2.1))) = true := by decide +kernel
theorem pm_dm0_4 : ((((((pm_cd pm_mm0).drop 60).drop 60).drop 60).drop 60).take 60).all (fun q => decide (decode (pm_by pm_mm0) q.1 = .ok q.2) && (pm_isw q.2.1 || decide (q.2.2 = pm_len q.2.1))) = true := by decide +kernel
theorem pm_dm0_5 : (((((((pm_cd pm_mm0).drop 60).drop 60).drop 60).drop 60).drop 60).take 60).all (fun q => decide (decode (pm_by pm_mm0) q.1 = .ok q.2) && (pm_isw q.2.1 || decide (q.2.2 = pm_len q.2.1))) = true := by decide +kernel
theorem pm_dm0_6 : ((((((((pm_cd pm_mm0).drop 60).drop 60).drop 60).drop 60).drop 60).drop 60).take 60).all (fun q => decide (decode (pm_by pm_mm0) q.1 = .ok q.2) && (pm_isw q.2.1 || decide (q.2.2 = pm_len q.2.1))) = true := by decide +kernel
theorem pm_dm0_7 : (((((((((pm_cd pm_mm0).drop 60).drop 60).drop 60).drop 60).drop 60).drop 60).drop 60).take 60).all (fun q => decide (decode (pm_by pm_mm0) q.1 = .ok q.2) && (pm_isw q.2.1 || decide (q.2.2 = pm_len q.2.1))) = true := by decide +kernel
theorem pm_dm0_8 : (((((((((pm_cd pm_mm0).drop 60).drop 60).drop 60).drop 60).drop 60).drop 60).drop 60).drop 60).all (fun q => decide (decode (pm_by pm_mm0) q.1 = .ok q.2) && (pm_isw q.2.1 || decide (q.2.2 = pm_len q.2.1))) = true := by decide +kernel
theorem pm_dm0 : pm_dck pm_mm0 = true := pm_all_cut 60 pm_dm0_0 (pm_all_cut 60 pm_dm0_1 (pm_all_cut 60 pm_dm0_2 (pm_all_cut 60 pm_dm0_3 (pm_all_cut 60 pm_dm0_4 (pm_all_cut 60 pm_dm0_5 (pm_all_cut 60 pm_dm0_6 (pm_all_cut 60 pm_dm0_7 (pm_dm0_8))))))))
theorem pm_dm1 : pm_dck pm_mm1 = true := by decide +kernel
theorem pm_dm2 : pm_dck pm_mm2 = true := by decide +kernel
theorem pm_dm3 : pm_dck pm_mm3 = true := by decide +kernel
theorem pm_dm4 : pm_dck pm_mm4 = true := by decide +kernel
theorem pm_dm5 : pm_dck pm_mm5 = true := by decide +kernel
theorem pm_dm6 : pm_dck pm_mm6 = true := by decide +kernel
theorem pm_dm7 : pm_dck pm_mm7 = true := by decide +kernel
theorem pm_dm8 : pm_dck pm_mm8 = true := by decide +kernel
theorem pm_dm9 : pm_dck pm_mm9 = true := by decide +kernel
theorem pm_dm10 : pm_dck pm_mm10 = true := by decide +kernel
theorem pm_dm11 : pm_dck pm_mm11 = true := by decide +kernel
theorem pm_dm12 : pm_dck pm_mm12 = true := by decide +kernel
theorem pm_dm13 : pm_dck pm_mm13 = true := by decide +kernel
theorem pm_dm14 : pm_dck pm_mm14 = true := by decide +kernel
theorem pm_dm15 : pm_dck pm_mm15 = true := by decide +kernel
theorem pm_dm16 : pm_dck pm_mm16 = true := by decide +kernel
theorem pm_dm17 : pm_dck pm_mm17 = true := by decide +kernel
theorem pm_dm18_0 : ((pm_cd pm_mm18).take 60).all (fun q => decide (decode (pm_by pm_mm18) q.1 = .ok q.2) && (pm_isw q.2.1 || decide (q.2.2 = pm_len q.2.1))) = true := by decide +kernel
theorem pm_dm18_1 : ((pm_cd pm_mm18).drop 60).all (fun q => decide (decode (pm_by pm_mm18) q.1 = .ok q.2) && (pm_isw q.2.1 || decide (q.2.2 = pm_len q.2.1))) = true := by decide +kernel
theorem pm_dm18 : pm_dck pm_mm18 = true := pm_all_cut 60 pm_dm18_0 (pm_dm18_1)
theorem pm_dm19 : pm_dck pm_mm19 = true := by decide +kernel
theorem pm_gd0 : pm_g0.all pm_dck = true := by
  unfold pm_g0
  simp only [List.all_cons, List.all_nil, Bool.and_true, pm_dm0, pm_dm1, pm_dm2, pm_dm3, pm_dm4, pm_dm5, pm_dm6, pm_dm7, pm_dm8, pm_dm9, pm_dm10, pm_dm11, pm_dm12, pm_dm13, pm_dm14, pm_dm15, pm_dm16, pm_dm17, pm_dm18, pm_dm19]
