/-! THE LAW: the turns that change the tape or the terms -/
set_option maxHeartbeats 4000000 in
set_option maxRecDepth 100000 in
theorem LM_feed1 {L : Nat} {xs : Nat → Int32} {t n nc ns : Nat} {kd pl : Nat → Nat} {s : Nat → Int} {a : Nat → Int → Int} {c : Nat → cdt} {s1 : Nat → Int} {v1 : Int64} {a1 : Nat → Int → Int} {nm : Nat → Int64} {N i : Int} {T : Int → List Int} {Q : Option Value → List va_E → Nat → Nat → Prop} (hi0 : 0 ≤ i) (hi6 : i + 6 ≤ L) (hL : L ≤ 3072) (hok : okT N T) (hc : cI n kd pl s a c N T) (hm : mI s a s1 a1 N T) (hin1 : ∀ i j, in32 (a1 i j)) (hnc : nc ≤ 50 + 12 * (t + 1)) (hns : ns ≤ 194358 + 503 * (t + 1) + wt pl) (hx : 600 < s 4 + 20) (k : ∀ n' kd' pl' s' a' c' s1' v1' a1' nm' nc' ns', LI (t + 1) n' kd' pl' s' a' c' s1' a1' nc' ns' → pm_E (some (L, xs)) 11 pm_mm0 779 [(0, .retAddr 0), (1, .ref 0), (2, .ref 18), (3, .int (iI i))] [] (ch n' kd' pl' s' a' c' (mc s1' v1' a1' nm')) nc' ns' Q) : pm_E (some (L, xs)) 11 pm_mm0 170 [(0, .retAddr 0), (1, .ref 0), (2, .ref 18), (3, .int (iI i))] [] (ch n kd pl s a c (mc s1 v1 a1 nm)) nc ns Q := by
  obtain ⟨⟨hW, hn50, hq50⟩, hS, hf, ⟨h4, h4'⟩, hb, ⟨ho0, ho1⟩, ⟨h14, h14'⟩, hA, hY⟩ := id hc
  have hp0 : pl 0 = 0 := hW.2.2.2.2.2.2
  obtain ⟨hsh, m4, m3, m45, m45', mt⟩ := id hm
  obtain ⟨hN0, hN32, hT⟩ := id hok
  have s0 : s 0 = N := hS.1
  have m0 : s1 0 = N := hsh.1
  refine pm_e_sim pm_a0_170 rfl ?_
  show pm_E _ _ _ 171 [(0, .retAddr 0), (1, .ref 0), (2, .ref 18), (3, .int (iI i))] [.ref 18] _ _ _ _
  refine pm_e_sim pm_a0_171 rfl ?_
  show pm_E _ _ _ 172 [(0, .retAddr 0), (1, .ref 0), (2, .ref 18), (3, .int (iI i))] [.retAddr 0, .ref 18] _ _ _ _
  refine pm_e_sim pm_a0_172 rfl ?_
  show pm_E _ _ _ 173 [(0, .retAddr 0), (1, .ref 0), (2, .ref 18), (3, .int (iI i))] [.int (iI i), .retAddr 0, .ref 18] _ _ _ _
  refine pm_e_sim pm_a0_173 rfl ?_
  refine pm_e_top (y := iI 1) (by decide +kernel) ?_
  show pm_E _ _ _ 174 [(0, .retAddr 0), (1, .ref 0), (2, .ref 18), (3, .int (iI i))] [.int (iI 1), .int (iI i), .retAddr 0, .ref 18] _ _ _ _
  refine pm_e_sim pm_a0_174 rfl ?_
  refine pm_e_top (y := iI (i + 1)) (iI_add _ _) ?_
  show pm_E _ _ _ 175 [(0, .retAddr 0), (1, .ref 0), (2, .ref 18), (3, .int (iI i))] [.int (iI (i + 1)), .retAddr 0, .ref 18] _ _ _ _
  refine pm_e_sld (j := (i + 1).toNat) pm_a0_175 (pm_ix_I (by omega) (by omega) ⟨by omega, by omega⟩) ?_
  refine pm_e_top (y := iI (xv xs i 1)) (iI_of _).symm ?_
  show pm_E _ _ _ 176 [(0, .retAddr 0), (1, .ref 0), (2, .ref 18), (3, .int (iI i))] [.int (iI (xv xs i 1)), .ref 18] _ _ _ _
  refine pm_e_sim pm_a0_176 rfl ?_
  show pm_E _ _ _ 177 [(0, .retAddr 0), (1, .ref 0), (2, .ref 18), (3, .int (iI i))] [.retAddr 0, .int (iI (xv xs i 1)), .ref 18] _ _ _ _
  refine pm_e_sim pm_a0_177 rfl ?_
  show pm_E _ _ _ 178 [(0, .retAddr 0), (1, .ref 0), (2, .ref 18), (3, .int (iI i))] [.int (iI i), .retAddr 0, .int (iI (xv xs i 1)), .ref 18] _ _ _ _
  refine pm_e_sim pm_a0_178 rfl ?_
  refine pm_e_top (y := iI 2) (by decide +kernel) ?_
  show pm_E _ _ _ 179 [(0, .retAddr 0), (1, .ref 0), (2, .ref 18), (3, .int (iI i))] [.int (iI 2), .int (iI i), .retAddr 0, .int (iI (xv xs i 1)), .ref 18] _ _ _ _
  refine pm_e_sim pm_a0_179 rfl ?_
  refine pm_e_top (y := iI (i + 2)) (iI_add _ _) ?_
  show pm_E _ _ _ 180 [(0, .retAddr 0), (1, .ref 0), (2, .ref 18), (3, .int (iI i))] [.int (iI (i + 2)), .retAddr 0, .int (iI (xv xs i 1)), .ref 18] _ _ _ _
  refine pm_e_sld (j := (i + 2).toNat) pm_a0_180 (pm_ix_I (by omega) (by omega) ⟨by omega, by omega⟩) ?_
  refine pm_e_top (y := iI (xv xs i 2)) (iI_of _).symm ?_
  show pm_E _ _ _ 181 [(0, .retAddr 0), (1, .ref 0), (2, .ref 18), (3, .int (iI i))] [.int (iI (xv xs i 2)), .int (iI (xv xs i 1)), .ref 18] _ _ _ _
  refine pm_e_sim pm_a0_181 rfl ?_
  show pm_E _ _ _ 182 [(0, .retAddr 0), (1, .ref 0), (2, .ref 18), (3, .int (iI i))] [.retAddr 0, .int (iI (xv xs i 2)), .int (iI (xv xs i 1)), .ref 18] _ _ _ _
  refine pm_e_sim pm_a0_182 rfl ?_
  show pm_E _ _ _ 183 [(0, .retAddr 0), (1, .ref 0), (2, .ref 18), (3, .int (iI i))] [.int (iI i), .retAddr 0, .int (iI (xv xs i 2)), .int (iI (xv xs i 1)), .ref 18] _ _ _ _
  refine pm_e_sim pm_a0_183 rfl ?_
  refine pm_e_top (y := iI 3) (by decide +kernel) ?_
  show pm_E _ _ _ 184 [(0, .retAddr 0), (1, .ref 0), (2, .ref 18), (3, .int (iI i))] [.int (iI 3), .int (iI i), .retAddr 0, .int (iI (xv xs i 2)), .int (iI (xv xs i 1)), .ref 18] _ _ _ _
  refine pm_e_sim pm_a0_184 rfl ?_
  refine pm_e_top (y := iI (i + 3)) (iI_add _ _) ?_
  show pm_E _ _ _ 185 [(0, .retAddr 0), (1, .ref 0), (2, .ref 18), (3, .int (iI i))] [.int (iI (i + 3)), .retAddr 0, .int (iI (xv xs i 2)), .int (iI (xv xs i 1)), .ref 18] _ _ _ _
  refine pm_e_sld (j := (i + 3).toNat) pm_a0_185 (pm_ix_I (by omega) (by omega) ⟨by omega, by omega⟩) ?_
  refine pm_e_top (y := iI (xv xs i 3)) (iI_of _).symm ?_
  show pm_E _ _ _ 186 [(0, .retAddr 0), (1, .ref 0), (2, .ref 18), (3, .int (iI i))] [.int (iI (xv xs i 3)), .int (iI (xv xs i 2)), .int (iI (xv xs i 1)), .ref 18] _ _ _ _
  refine pm_e_sim pm_a0_186 rfl ?_
  show pm_E _ _ _ 187 [(0, .retAddr 0), (1, .ref 0), (2, .ref 18), (3, .int (iI i))] [.retAddr 0, .int (iI (xv xs i 3)), .int (iI (xv xs i 2)), .int (iI (xv xs i 1)), .ref 18] _ _ _ _
  refine pm_e_sim pm_a0_187 rfl ?_
  show pm_E _ _ _ 188 [(0, .retAddr 0), (1, .ref 0), (2, .ref 18), (3, .int (iI i))] [.int (iI i), .retAddr 0, .int (iI (xv xs i 3)), .int (iI (xv xs i 2)), .int (iI (xv xs i 1)), .ref 18] _ _ _ _
  refine pm_e_sim pm_a0_188 rfl ?_
  refine pm_e_top (y := iI 4) (by decide +kernel) ?_
  show pm_E _ _ _ 189 [(0, .retAddr 0), (1, .ref 0), (2, .ref 18), (3, .int (iI i))] [.int (iI 4), .int (iI i), .retAddr 0, .int (iI (xv xs i 3)), .int (iI (xv xs i 2)), .int (iI (xv xs i 1)), .ref 18] _ _ _ _
  refine pm_e_sim pm_a0_189 rfl ?_
  refine pm_e_top (y := iI (i + 4)) (iI_add _ _) ?_
  show pm_E _ _ _ 190 [(0, .retAddr 0), (1, .ref 0), (2, .ref 18), (3, .int (iI i))] [.int (iI (i + 4)), .retAddr 0, .int (iI (xv xs i 3)), .int (iI (xv xs i 2)), .int (iI (xv xs i 1)), .ref 18] _ _ _ _
  refine pm_e_sld (j := (i + 4).toNat) pm_a0_190 (pm_ix_I (by omega) (by omega) ⟨by omega, by omega⟩) ?_
  refine pm_e_top (y := iI (xv xs i 4)) (iI_of _).symm ?_
  show pm_E _ _ _ 191 [(0, .retAddr 0), (1, .ref 0), (2, .ref 18), (3, .int (iI i))] [.int (iI (xv xs i 4)), .int (iI (xv xs i 3)), .int (iI (xv xs i 2)), .int (iI (xv xs i 1)), .ref 18] _ _ _ _
  refine pm_e_sim pm_a0_191 rfl ?_
  show pm_E _ _ _ 192 [(0, .retAddr 0), (1, .ref 0), (2, .ref 18), (3, .int (iI i))] [.retAddr 0, .int (iI (xv xs i 4)), .int (iI (xv xs i 3)), .int (iI (xv xs i 2)), .int (iI (xv xs i 1)), .ref 18] _ _ _ _
  refine pm_e_sim pm_a0_192 rfl ?_
  show pm_E _ _ _ 193 [(0, .retAddr 0), (1, .ref 0), (2, .ref 18), (3, .int (iI i))] [.int (iI i), .retAddr 0, .int (iI (xv xs i 4)), .int (iI (xv xs i 3)), .int (iI (xv xs i 2)), .int (iI (xv xs i 1)), .ref 18] _ _ _ _
  refine pm_e_sim pm_a0_193 rfl ?_
  refine pm_e_top (y := iI 5) (by decide +kernel) ?_
  show pm_E _ _ _ 194 [(0, .retAddr 0), (1, .ref 0), (2, .ref 18), (3, .int (iI i))] [.int (iI 5), .int (iI i), .retAddr 0, .int (iI (xv xs i 4)), .int (iI (xv xs i 3)), .int (iI (xv xs i 2)), .int (iI (xv xs i 1)), .ref 18] _ _ _ _
  refine pm_e_sim pm_a0_194 rfl ?_
  refine pm_e_top (y := iI (i + 5)) (iI_add _ _) ?_
  show pm_E _ _ _ 195 [(0, .retAddr 0), (1, .ref 0), (2, .ref 18), (3, .int (iI i))] [.int (iI (i + 5)), .retAddr 0, .int (iI (xv xs i 4)), .int (iI (xv xs i 3)), .int (iI (xv xs i 2)), .int (iI (xv xs i 1)), .ref 18] _ _ _ _
  refine pm_e_sld (j := (i + 5).toNat) pm_a0_195 (pm_ix_I (by omega) (by omega) ⟨by omega, by omega⟩) ?_
  refine pm_e_top (y := iI (xv xs i 5)) (iI_of _).symm ?_
  show pm_E _ _ _ 196 [(0, .retAddr 0), (1, .ref 0), (2, .ref 18), (3, .int (iI i))] [.int (iI (xv xs i 5)), .int (iI (xv xs i 4)), .int (iI (xv xs i 3)), .int (iI (xv xs i 2)), .int (iI (xv xs i 1)), .ref 18] _ _ _ _
  rw [ch_mh hW hn50 hq50]
  refine pm_i_callv (k := 18) (T2 := pm_mm144) pm_a0_196 rfl rfl rfl (mh_get (j := 0) kA18_len rfl) ⟨Nat.le_of_ble_eq_true rfl, Nat.le_of_ble_eq_true rfl, rfl, by decide +kernel⟩ ?_
  show pm_E none _ _ 0 [(0, .ref 18), (1, .int (iI (xv xs i 1))), (2, .int (iI (xv xs i 2))), (3, .int (iI (xv xs i 3))), (4, .int (iI (xv xs i 4))), (5, .int (iI (xv xs i 5)))] [] _ _ _ _
  refine M_feed kA18_len (by omega) (by omega) (fun _ => ?_) (fun z => absurd z (by omega))
  · skip
    rw [← ch_mh hW hn50 hq50]
    show pm_E _ _ _ 199 [(0, .retAddr 0), (1, .ref 0), (2, .ref 18), (3, .int (iI i))] [.int (iI (-3))] _ _ _ _
    refine pm_e_sim pm_a0_199 rfl ?_
    show pm_E _ _ _ 200 [(0, .retAddr 0), (1, .ref 0), (2, .ref 18), (3, .int (iI i))] [] _ _ _ _
    refine pm_e_goto pm_a0_200 rfl ?_
    show pm_E _ _ _ 779 [(0, .retAddr 0), (1, .ref 0), (2, .ref 18), (3, .int (iI i))] [] _ _ _ _
    exact k _ _ _ _ _ _ _ _ _ _ _ _ ⟨N, T, hok, hc, hm, by omega, by omega⟩
set_option maxHeartbeats 4000000 in
set_option maxRecDepth 100000 in
theorem LM_feed2 {L : Nat} {xs : Nat → Int32} {t n nc ns : Nat} {kd pl : Nat → Nat} {s : Nat → Int} {a : Nat → Int → Int} {c : Nat → cdt} {s1 : Nat → Int} {v1 : Int64} {a1 : Nat → Int → Int} {nm : Nat → Int64} {N i : Int} {T : Int → List Int} {Q : Option Value → List va_E → Nat → Nat → Prop} (hi0 : 0 ≤ i) (hi6 : i + 6 ≤ L) (hL : L ≤ 3072) (hok : okT N T) (hc : cI n kd pl s a c N T) (hsh : sh s1 a1 N T) (e4 : s 4 = s1 4 + 20) (e0 : a 0 = mP5 (a1 3) (s1 4) (xv xs i 1) (xv xs i 2) (xv xs i 3) (xv xs i 4) (xv xs i 5)) (h0 : 0 ≤ s1 4) (m45 : 0 ≤ s1 45) (m45' : s1 45 ≤ 500) (mt : tld s s1) (hin1 : ∀ i j, in32 (a1 i j)) (hnc : nc ≤ 50 + 12 * (t + 1)) (hns : ns ≤ 194358 + 503 * (t + 1) + wt pl) (k : ∀ n' kd' pl' s' a' c' s1' v1' a1' nm' nc' ns', LI (t + 1) n' kd' pl' s' a' c' s1' a1' nc' ns' → pm_E (some (L, xs)) 11 pm_mm0 779 [(0, .retAddr 0), (1, .ref 0), (2, .ref 18), (3, .int (iI i))] [] (ch n' kd' pl' s' a' c' (mc s1' v1' a1' nm')) nc' ns' Q) : pm_E (some (L, xs)) 11 pm_mm0 170 [(0, .retAddr 0), (1, .ref 0), (2, .ref 18), (3, .int (iI i))] [] (ch n kd pl s a c (mc s1 v1 a1 nm)) nc ns Q := by
  obtain ⟨⟨hW, hn50, hq50⟩, hS, hf, ⟨h4, h4'⟩, hb, ⟨ho0, ho1⟩, ⟨h14, h14'⟩, hA, hY⟩ := id hc
  have hp0 : pl 0 = 0 := hW.2.2.2.2.2.2
  refine pm_e_sim pm_a0_170 rfl ?_
  show pm_E _ _ _ 171 [(0, .retAddr 0), (1, .ref 0), (2, .ref 18), (3, .int (iI i))] [.ref 18] _ _ _ _
  refine pm_e_sim pm_a0_171 rfl ?_
  show pm_E _ _ _ 172 [(0, .retAddr 0), (1, .ref 0), (2, .ref 18), (3, .int (iI i))] [.retAddr 0, .ref 18] _ _ _ _
  refine pm_e_sim pm_a0_172 rfl ?_
  show pm_E _ _ _ 173 [(0, .retAddr 0), (1, .ref 0), (2, .ref 18), (3, .int (iI i))] [.int (iI i), .retAddr 0, .ref 18] _ _ _ _
  refine pm_e_sim pm_a0_173 rfl ?_
  refine pm_e_top (y := iI 1) (by decide +kernel) ?_
  show pm_E _ _ _ 174 [(0, .retAddr 0), (1, .ref 0), (2, .ref 18), (3, .int (iI i))] [.int (iI 1), .int (iI i), .retAddr 0, .ref 18] _ _ _ _
  refine pm_e_sim pm_a0_174 rfl ?_
  refine pm_e_top (y := iI (i + 1)) (iI_add _ _) ?_
  show pm_E _ _ _ 175 [(0, .retAddr 0), (1, .ref 0), (2, .ref 18), (3, .int (iI i))] [.int (iI (i + 1)), .retAddr 0, .ref 18] _ _ _ _
  refine pm_e_sld (j := (i + 1).toNat) pm_a0_175 (pm_ix_I (by omega) (by omega) ⟨by omega, by omega⟩) ?_
  refine pm_e_top (y := iI (xv xs i 1)) (iI_of _).symm ?_
  show pm_E _ _ _ 176 [(0, .retAddr 0), (1, .ref 0), (2, .ref 18), (3, .int (iI i))] [.int (iI (xv xs i 1)), .ref 18] _ _ _ _
  refine pm_e_sim pm_a0_176 rfl ?_
  show pm_E _ _ _ 177 [(0, .retAddr 0), (1, .ref 0), (2, .ref 18), (3, .int (iI i))] [.retAddr 0, .int (iI (xv xs i 1)), .ref 18] _ _ _ _
  refine pm_e_sim pm_a0_177 rfl ?_
  show pm_E _ _ _ 178 [(0, .retAddr 0), (1, .ref 0), (2, .ref 18), (3, .int (iI i))] [.int (iI i), .retAddr 0, .int (iI (xv xs i 1)), .ref 18] _ _ _ _
  refine pm_e_sim pm_a0_178 rfl ?_
  refine pm_e_top (y := iI 2) (by decide +kernel) ?_
  show pm_E _ _ _ 179 [(0, .retAddr 0), (1, .ref 0), (2, .ref 18), (3, .int (iI i))] [.int (iI 2), .int (iI i), .retAddr 0, .int (iI (xv xs i 1)), .ref 18] _ _ _ _
  refine pm_e_sim pm_a0_179 rfl ?_
  refine pm_e_top (y := iI (i + 2)) (iI_add _ _) ?_
  show pm_E _ _ _ 180 [(0, .retAddr 0), (1, .ref 0), (2, .ref 18), (3, .int (iI i))] [.int (iI (i + 2)), .retAddr 0, .int (iI (xv xs i 1)), .ref 18] _ _ _ _
  refine pm_e_sld (j := (i + 2).toNat) pm_a0_180 (pm_ix_I (by omega) (by omega) ⟨by omega, by omega⟩) ?_
  refine pm_e_top (y := iI (xv xs i 2)) (iI_of _).symm ?_
  show pm_E _ _ _ 181 [(0, .retAddr 0), (1, .ref 0), (2, .ref 18), (3, .int (iI i))] [.int (iI (xv xs i 2)), .int (iI (xv xs i 1)), .ref 18] _ _ _ _
  refine pm_e_sim pm_a0_181 rfl ?_
  show pm_E _ _ _ 182 [(0, .retAddr 0), (1, .ref 0), (2, .ref 18), (3, .int (iI i))] [.retAddr 0, .int (iI (xv xs i 2)), .int (iI (xv xs i 1)), .ref 18] _ _ _ _
  refine pm_e_sim pm_a0_182 rfl ?_
  show pm_E _ _ _ 183 [(0, .retAddr 0), (1, .ref 0), (2, .ref 18), (3, .int (iI i))] [.int (iI i), .retAddr 0, .int (iI (xv xs i 2)), .int (iI (xv xs i 1)), .ref 18] _ _ _ _
  refine pm_e_sim pm_a0_183 rfl ?_
  refine pm_e_top (y := iI 3) (by decide +kernel) ?_
  show pm_E _ _ _ 184 [(0, .retAddr 0), (1, .ref 0), (2, .ref 18), (3, .int (iI i))] [.int (iI 3), .int (iI i), .retAddr 0, .int (iI (xv xs i 2)), .int (iI (xv xs i 1)), .ref 18] _ _ _ _
  refine pm_e_sim pm_a0_184 rfl ?_
  refine pm_e_top (y := iI (i + 3)) (iI_add _ _) ?_
  show pm_E _ _ _ 185 [(0, .retAddr 0), (1, .ref 0), (2, .ref 18), (3, .int (iI i))] [.int (iI (i + 3)), .retAddr 0, .int (iI (xv xs i 2)), .int (iI (xv xs i 1)), .ref 18] _ _ _ _
  refine pm_e_sld (j := (i + 3).toNat) pm_a0_185 (pm_ix_I (by omega) (by omega) ⟨by omega, by omega⟩) ?_
  refine pm_e_top (y := iI (xv xs i 3)) (iI_of _).symm ?_
  show pm_E _ _ _ 186 [(0, .retAddr 0), (1, .ref 0), (2, .ref 18), (3, .int (iI i))] [.int (iI (xv xs i 3)), .int (iI (xv xs i 2)), .int (iI (xv xs i 1)), .ref 18] _ _ _ _
  refine pm_e_sim pm_a0_186 rfl ?_
  show pm_E _ _ _ 187 [(0, .retAddr 0), (1, .ref 0), (2, .ref 18), (3, .int (iI i))] [.retAddr 0, .int (iI (xv xs i 3)), .int (iI (xv xs i 2)), .int (iI (xv xs i 1)), .ref 18] _ _ _ _
  refine pm_e_sim pm_a0_187 rfl ?_
  show pm_E _ _ _ 188 [(0, .retAddr 0), (1, .ref 0), (2, .ref 18), (3, .int (iI i))] [.int (iI i), .retAddr 0, .int (iI (xv xs i 3)), .int (iI (xv xs i 2)), .int (iI (xv xs i 1)), .ref 18] _ _ _ _
  refine pm_e_sim pm_a0_188 rfl ?_
  refine pm_e_top (y := iI 4) (by decide +kernel) ?_
  show pm_E _ _ _ 189 [(0, .retAddr 0), (1, .ref 0), (2, .ref 18), (3, .int (iI i))] [.int (iI 4), .int (iI i), .retAddr 0, .int (iI (xv xs i 3)), .int (iI (xv xs i 2)), .int (iI (xv xs i 1)), .ref 18] _ _ _ _
  refine pm_e_sim pm_a0_189 rfl ?_
  refine pm_e_top (y := iI (i + 4)) (iI_add _ _) ?_
  show pm_E _ _ _ 190 [(0, .retAddr 0), (1, .ref 0), (2, .ref 18), (3, .int (iI i))] [.int (iI (i + 4)), .retAddr 0, .int (iI (xv xs i 3)), .int (iI (xv xs i 2)), .int (iI (xv xs i 1)), .ref 18] _ _ _ _
  refine pm_e_sld (j := (i + 4).toNat) pm_a0_190 (pm_ix_I (by omega) (by omega) ⟨by omega, by omega⟩) ?_
  refine pm_e_top (y := iI (xv xs i 4)) (iI_of _).symm ?_
  show pm_E _ _ _ 191 [(0, .retAddr 0), (1, .ref 0), (2, .ref 18), (3, .int (iI i))] [.int (iI (xv xs i 4)), .int (iI (xv xs i 3)), .int (iI (xv xs i 2)), .int (iI (xv xs i 1)), .ref 18] _ _ _ _
  refine pm_e_sim pm_a0_191 rfl ?_
  show pm_E _ _ _ 192 [(0, .retAddr 0), (1, .ref 0), (2, .ref 18), (3, .int (iI i))] [.retAddr 0, .int (iI (xv xs i 4)), .int (iI (xv xs i 3)), .int (iI (xv xs i 2)), .int (iI (xv xs i 1)), .ref 18] _ _ _ _
  refine pm_e_sim pm_a0_192 rfl ?_
  show pm_E _ _ _ 193 [(0, .retAddr 0), (1, .ref 0), (2, .ref 18), (3, .int (iI i))] [.int (iI i), .retAddr 0, .int (iI (xv xs i 4)), .int (iI (xv xs i 3)), .int (iI (xv xs i 2)), .int (iI (xv xs i 1)), .ref 18] _ _ _ _
  refine pm_e_sim pm_a0_193 rfl ?_
  refine pm_e_top (y := iI 5) (by decide +kernel) ?_
  show pm_E _ _ _ 194 [(0, .retAddr 0), (1, .ref 0), (2, .ref 18), (3, .int (iI i))] [.int (iI 5), .int (iI i), .retAddr 0, .int (iI (xv xs i 4)), .int (iI (xv xs i 3)), .int (iI (xv xs i 2)), .int (iI (xv xs i 1)), .ref 18] _ _ _ _
  refine pm_e_sim pm_a0_194 rfl ?_
  refine pm_e_top (y := iI (i + 5)) (iI_add _ _) ?_
  show pm_E _ _ _ 195 [(0, .retAddr 0), (1, .ref 0), (2, .ref 18), (3, .int (iI i))] [.int (iI (i + 5)), .retAddr 0, .int (iI (xv xs i 4)), .int (iI (xv xs i 3)), .int (iI (xv xs i 2)), .int (iI (xv xs i 1)), .ref 18] _ _ _ _
  refine pm_e_sld (j := (i + 5).toNat) pm_a0_195 (pm_ix_I (by omega) (by omega) ⟨by omega, by omega⟩) ?_
  refine pm_e_top (y := iI (xv xs i 5)) (iI_of _).symm ?_
  show pm_E _ _ _ 196 [(0, .retAddr 0), (1, .ref 0), (2, .ref 18), (3, .int (iI i))] [.int (iI (xv xs i 5)), .int (iI (xv xs i 4)), .int (iI (xv xs i 3)), .int (iI (xv xs i 2)), .int (iI (xv xs i 1)), .ref 18] _ _ _ _
  rw [ch_mh hW hn50 hq50]
  refine pm_i_callv (k := 18) (T2 := pm_mm144) pm_a0_196 rfl rfl rfl (mh_get (j := 0) kA18_len rfl) ⟨Nat.le_of_ble_eq_true rfl, Nat.le_of_ble_eq_true rfl, rfl, by decide +kernel⟩ ?_
  show pm_E none _ _ 0 [(0, .ref 18), (1, .int (iI (xv xs i 1))), (2, .int (iI (xv xs i 2))), (3, .int (iI (xv xs i 3))), (4, .int (iI (xv xs i 4))), (5, .int (iI (xv xs i 5)))] [] _ _ _ _
  refine M_feed kA18_len h0 (by omega) (fun z => absurd z (by omega)) (fun _ r s1' a1' er es ea => ?_)
  · skip
    rw [← ch_mh hW hn50 hq50]
    show pm_E _ _ _ 199 [(0, .retAddr 0), (1, .ref 0), (2, .ref 18), (3, .int (iI i))] [.int (iI r)] _ _ _ _
    refine pm_e_sim pm_a0_199 rfl ?_
    show pm_E _ _ _ 200 [(0, .retAddr 0), (1, .ref 0), (2, .ref 18), (3, .int (iI i))] [] _ _ _ _
    refine pm_e_goto pm_a0_200 rfl ?_
    show pm_E _ _ _ 779 [(0, .retAddr 0), (1, .ref 0), (2, .ref 18), (3, .int (iI i))] [] _ _ _ _
    subst es; subst ea
    exact k _ _ _ _ _ _ _ _ _ _ _ _ ⟨N, T, hok, hc, ⟨sh_fr hsh rfl rfl rfl, e4.symm, e0.symm, m45, m45', tld_m mt rfl rfl rfl⟩, by omega, by omega⟩
set_option maxHeartbeats 4000000 in
set_option maxRecDepth 100000 in
theorem LC_feed {L : Nat} {xs : Nat → Int32} {t n nc ns : Nat} {kd pl : Nat → Nat} {s : Nat → Int} {a : Nat → Int → Int} {c : Nat → cdt} {s1 : Nat → Int} {v1 : Int64} {a1 : Nat → Int → Int} {nm : Nat → Int64} {N i : Int} {T : Int → List Int} {Q : Option Value → List va_E → Nat → Nat → Prop} (hi0 : 0 ≤ i) (hi6 : i + 6 ≤ L) (hL : L ≤ 3072) (hok : okT N T) (hc : cI n kd pl s a c N T) (hm : mI s a s1 a1 N T) (hs : ∀ i, in32 (s i)) (hin : ∀ i j, in32 (a i j)) (hin1 : ∀ i j, in32 (a1 i j)) (hnc : nc ≤ 50 + 12 * t) (hns : ns ≤ 194358 + 503 * t + wt pl) (k : ∀ n' kd' pl' s' a' c' s1' v1' a1' nm' nc' ns', LI (t + 1) n' kd' pl' s' a' c' s1' a1' nc' ns' → pm_E (some (L, xs)) 11 pm_mm0 779 [(0, .retAddr 0), (1, .ref 0), (2, .ref 18), (3, .int (iI i))] [] (ch n' kd' pl' s' a' c' (mc s1' v1' a1' nm')) nc' ns' Q) : pm_E (some (L, xs)) 11 pm_mm0 140 [(0, .retAddr 0), (1, .ref 0), (2, .ref 18), (3, .int (iI i))] [] (ch n kd pl s a c (mc s1 v1 a1 nm)) nc ns Q := by
  obtain ⟨⟨hW, hn50, hq50⟩, hS, hf, ⟨h4, h4'⟩, hb, ⟨ho0, ho1⟩, ⟨h14, h14'⟩, hA, hY⟩ := id hc
  have hp0 : pl 0 = 0 := hW.2.2.2.2.2.2
  obtain ⟨hsh, m4, m3, m45, m45', mt⟩ := id hm
  obtain ⟨hN0, hN32, hT⟩ := id hok
  have s0 : s 0 = N := hS.1
  have m0 : s1 0 = N := hsh.1
  refine pm_e_sim pm_a0_140 rfl ?_
  show pm_E _ _ _ 141 [(0, .retAddr 0), (1, .ref 0), (2, .ref 18), (3, .int (iI i))] [.ref 0] _ _ _ _
  refine pm_e_sim pm_a0_141 rfl ?_
  show pm_E _ _ _ 142 [(0, .retAddr 0), (1, .ref 0), (2, .ref 18), (3, .int (iI i))] [.retAddr 0, .ref 0] _ _ _ _
  refine pm_e_sim pm_a0_142 rfl ?_
  show pm_E _ _ _ 143 [(0, .retAddr 0), (1, .ref 0), (2, .ref 18), (3, .int (iI i))] [.int (iI i), .retAddr 0, .ref 0] _ _ _ _
  refine pm_e_sim pm_a0_143 rfl ?_
  refine pm_e_top (y := iI 1) (by decide +kernel) ?_
  show pm_E _ _ _ 144 [(0, .retAddr 0), (1, .ref 0), (2, .ref 18), (3, .int (iI i))] [.int (iI 1), .int (iI i), .retAddr 0, .ref 0] _ _ _ _
  refine pm_e_sim pm_a0_144 rfl ?_
  refine pm_e_top (y := iI (i + 1)) (iI_add _ _) ?_
  show pm_E _ _ _ 145 [(0, .retAddr 0), (1, .ref 0), (2, .ref 18), (3, .int (iI i))] [.int (iI (i + 1)), .retAddr 0, .ref 0] _ _ _ _
  refine pm_e_sld (j := (i + 1).toNat) pm_a0_145 (pm_ix_I (by omega) (by omega) ⟨by omega, by omega⟩) ?_
  refine pm_e_top (y := iI (xv xs i 1)) (iI_of _).symm ?_
  show pm_E _ _ _ 146 [(0, .retAddr 0), (1, .ref 0), (2, .ref 18), (3, .int (iI i))] [.int (iI (xv xs i 1)), .ref 0] _ _ _ _
  refine pm_e_sim pm_a0_146 rfl ?_
  show pm_E _ _ _ 147 [(0, .retAddr 0), (1, .ref 0), (2, .ref 18), (3, .int (iI i))] [.retAddr 0, .int (iI (xv xs i 1)), .ref 0] _ _ _ _
  refine pm_e_sim pm_a0_147 rfl ?_
  show pm_E _ _ _ 148 [(0, .retAddr 0), (1, .ref 0), (2, .ref 18), (3, .int (iI i))] [.int (iI i), .retAddr 0, .int (iI (xv xs i 1)), .ref 0] _ _ _ _
  refine pm_e_sim pm_a0_148 rfl ?_
  refine pm_e_top (y := iI 2) (by decide +kernel) ?_
  show pm_E _ _ _ 149 [(0, .retAddr 0), (1, .ref 0), (2, .ref 18), (3, .int (iI i))] [.int (iI 2), .int (iI i), .retAddr 0, .int (iI (xv xs i 1)), .ref 0] _ _ _ _
  refine pm_e_sim pm_a0_149 rfl ?_
  refine pm_e_top (y := iI (i + 2)) (iI_add _ _) ?_
  show pm_E _ _ _ 150 [(0, .retAddr 0), (1, .ref 0), (2, .ref 18), (3, .int (iI i))] [.int (iI (i + 2)), .retAddr 0, .int (iI (xv xs i 1)), .ref 0] _ _ _ _
  refine pm_e_sld (j := (i + 2).toNat) pm_a0_150 (pm_ix_I (by omega) (by omega) ⟨by omega, by omega⟩) ?_
  refine pm_e_top (y := iI (xv xs i 2)) (iI_of _).symm ?_
  show pm_E _ _ _ 151 [(0, .retAddr 0), (1, .ref 0), (2, .ref 18), (3, .int (iI i))] [.int (iI (xv xs i 2)), .int (iI (xv xs i 1)), .ref 0] _ _ _ _
  refine pm_e_sim pm_a0_151 rfl ?_
  show pm_E _ _ _ 152 [(0, .retAddr 0), (1, .ref 0), (2, .ref 18), (3, .int (iI i))] [.retAddr 0, .int (iI (xv xs i 2)), .int (iI (xv xs i 1)), .ref 0] _ _ _ _
  refine pm_e_sim pm_a0_152 rfl ?_
  show pm_E _ _ _ 153 [(0, .retAddr 0), (1, .ref 0), (2, .ref 18), (3, .int (iI i))] [.int (iI i), .retAddr 0, .int (iI (xv xs i 2)), .int (iI (xv xs i 1)), .ref 0] _ _ _ _
  refine pm_e_sim pm_a0_153 rfl ?_
  refine pm_e_top (y := iI 3) (by decide +kernel) ?_
  show pm_E _ _ _ 154 [(0, .retAddr 0), (1, .ref 0), (2, .ref 18), (3, .int (iI i))] [.int (iI 3), .int (iI i), .retAddr 0, .int (iI (xv xs i 2)), .int (iI (xv xs i 1)), .ref 0] _ _ _ _
  refine pm_e_sim pm_a0_154 rfl ?_
  refine pm_e_top (y := iI (i + 3)) (iI_add _ _) ?_
  show pm_E _ _ _ 155 [(0, .retAddr 0), (1, .ref 0), (2, .ref 18), (3, .int (iI i))] [.int (iI (i + 3)), .retAddr 0, .int (iI (xv xs i 2)), .int (iI (xv xs i 1)), .ref 0] _ _ _ _
  refine pm_e_sld (j := (i + 3).toNat) pm_a0_155 (pm_ix_I (by omega) (by omega) ⟨by omega, by omega⟩) ?_
  refine pm_e_top (y := iI (xv xs i 3)) (iI_of _).symm ?_
  show pm_E _ _ _ 156 [(0, .retAddr 0), (1, .ref 0), (2, .ref 18), (3, .int (iI i))] [.int (iI (xv xs i 3)), .int (iI (xv xs i 2)), .int (iI (xv xs i 1)), .ref 0] _ _ _ _
  refine pm_e_sim pm_a0_156 rfl ?_
  show pm_E _ _ _ 157 [(0, .retAddr 0), (1, .ref 0), (2, .ref 18), (3, .int (iI i))] [.retAddr 0, .int (iI (xv xs i 3)), .int (iI (xv xs i 2)), .int (iI (xv xs i 1)), .ref 0] _ _ _ _
  refine pm_e_sim pm_a0_157 rfl ?_
  show pm_E _ _ _ 158 [(0, .retAddr 0), (1, .ref 0), (2, .ref 18), (3, .int (iI i))] [.int (iI i), .retAddr 0, .int (iI (xv xs i 3)), .int (iI (xv xs i 2)), .int (iI (xv xs i 1)), .ref 0] _ _ _ _
  refine pm_e_sim pm_a0_158 rfl ?_
  refine pm_e_top (y := iI 4) (by decide +kernel) ?_
  show pm_E _ _ _ 159 [(0, .retAddr 0), (1, .ref 0), (2, .ref 18), (3, .int (iI i))] [.int (iI 4), .int (iI i), .retAddr 0, .int (iI (xv xs i 3)), .int (iI (xv xs i 2)), .int (iI (xv xs i 1)), .ref 0] _ _ _ _
  refine pm_e_sim pm_a0_159 rfl ?_
  refine pm_e_top (y := iI (i + 4)) (iI_add _ _) ?_
  show pm_E _ _ _ 160 [(0, .retAddr 0), (1, .ref 0), (2, .ref 18), (3, .int (iI i))] [.int (iI (i + 4)), .retAddr 0, .int (iI (xv xs i 3)), .int (iI (xv xs i 2)), .int (iI (xv xs i 1)), .ref 0] _ _ _ _
  refine pm_e_sld (j := (i + 4).toNat) pm_a0_160 (pm_ix_I (by omega) (by omega) ⟨by omega, by omega⟩) ?_
  refine pm_e_top (y := iI (xv xs i 4)) (iI_of _).symm ?_
  show pm_E _ _ _ 161 [(0, .retAddr 0), (1, .ref 0), (2, .ref 18), (3, .int (iI i))] [.int (iI (xv xs i 4)), .int (iI (xv xs i 3)), .int (iI (xv xs i 2)), .int (iI (xv xs i 1)), .ref 0] _ _ _ _
  refine pm_e_sim pm_a0_161 rfl ?_
  show pm_E _ _ _ 162 [(0, .retAddr 0), (1, .ref 0), (2, .ref 18), (3, .int (iI i))] [.retAddr 0, .int (iI (xv xs i 4)), .int (iI (xv xs i 3)), .int (iI (xv xs i 2)), .int (iI (xv xs i 1)), .ref 0] _ _ _ _
  refine pm_e_sim pm_a0_162 rfl ?_
  show pm_E _ _ _ 163 [(0, .retAddr 0), (1, .ref 0), (2, .ref 18), (3, .int (iI i))] [.int (iI i), .retAddr 0, .int (iI (xv xs i 4)), .int (iI (xv xs i 3)), .int (iI (xv xs i 2)), .int (iI (xv xs i 1)), .ref 0] _ _ _ _
  refine pm_e_sim pm_a0_163 rfl ?_
  refine pm_e_top (y := iI 5) (by decide +kernel) ?_
  show pm_E _ _ _ 164 [(0, .retAddr 0), (1, .ref 0), (2, .ref 18), (3, .int (iI i))] [.int (iI 5), .int (iI i), .retAddr 0, .int (iI (xv xs i 4)), .int (iI (xv xs i 3)), .int (iI (xv xs i 2)), .int (iI (xv xs i 1)), .ref 0] _ _ _ _
  refine pm_e_sim pm_a0_164 rfl ?_
  refine pm_e_top (y := iI (i + 5)) (iI_add _ _) ?_
  show pm_E _ _ _ 165 [(0, .retAddr 0), (1, .ref 0), (2, .ref 18), (3, .int (iI i))] [.int (iI (i + 5)), .retAddr 0, .int (iI (xv xs i 4)), .int (iI (xv xs i 3)), .int (iI (xv xs i 2)), .int (iI (xv xs i 1)), .ref 0] _ _ _ _
  refine pm_e_sld (j := (i + 5).toNat) pm_a0_165 (pm_ix_I (by omega) (by omega) ⟨by omega, by omega⟩) ?_
  refine pm_e_top (y := iI (xv xs i 5)) (iI_of _).symm ?_
  show pm_E _ _ _ 166 [(0, .retAddr 0), (1, .ref 0), (2, .ref 18), (3, .int (iI i))] [.int (iI (xv xs i 5)), .int (iI (xv xs i 4)), .int (iI (xv xs i 3)), .int (iI (xv xs i 2)), .int (iI (xv xs i 1)), .ref 0] _ _ _ _
  refine pm_i_callv (k := 0) (T2 := pm_mm8) pm_a0_166 rfl rfl rfl (cg0 hW) ⟨Nat.le_of_ble_eq_true rfl, Nat.le_of_ble_eq_true rfl, rfl, by decide +kernel⟩ ?_
  show pm_E none _ _ 0 ((0, .ref 0) :: [(1, .int (iI (xv xs i 1))), (2, .int (iI (xv xs i 2))), (3, .int (iI (xv xs i 3))), (4, .int (iI (xv xs i 4))), (5, .int (iI (xv xs i 5)))]) [] _ _ _ _
  refine pm_e_lv0 hp0 ?_
  refine C_feed hW (by omega) (by omega) (fun hx => ?_) (fun hx r s' a' er es ea => ?_)
  · skip
    show pm_E _ _ _ 169 [(0, .retAddr 0), (1, .ref 0), (2, .ref 18), (3, .int (iI i))] [.int (iI (-3))] _ _ _ _
    refine pm_e_sim pm_a0_169 rfl ?_
    show pm_E _ _ _ 170 [(0, .retAddr 0), (1, .ref 0), (2, .ref 18), (3, .int (iI i))] [] _ _ _ _
    exact LM_feed1 hi0 hi6 hL hok hc hm hin1 (by omega) (by omega) hx k
  · skip
    show pm_E _ _ _ 169 [(0, .retAddr 0), (1, .ref 0), (2, .ref 18), (3, .int (iI i))] [.int (iI r)] _ _ _ _
    refine pm_e_sim pm_a0_169 rfl ?_
    show pm_E _ _ _ 170 [(0, .retAddr 0), (1, .ref 0), (2, .ref 18), (3, .int (iI i))] [] _ _ _ _
    subst es; subst ea
    exact LM_feed2 hi0 hi6 hL hok (cI_s hc rfl (by show 0 ≤ s 4 + 20 ∧ s 4 + 20 ≤ 600; omega) ⟨h14, h14'⟩ (mP5_b hb)) hsh (by show s 4 + 20 = s1 4 + 20; omega) (by show mP5 (a 0) (s 4) _ _ _ _ _ = _; rw [m3, m4]) (by omega) m45 m45' (tld_c mt rfl rfl rfl) hin1 (by omega) (by omega) k
set_option maxHeartbeats 4000000 in
set_option maxRecDepth 100000 in
theorem LM_end1 {L : Nat} {xs : Nat → Int32} {t n nc ns : Nat} {kd pl : Nat → Nat} {s : Nat → Int} {a : Nat → Int → Int} {c : Nat → cdt} {s1 : Nat → Int} {v1 : Int64} {a1 : Nat → Int → Int} {nm : Nat → Int64} {N i : Int} {T : Int → List Int} {Q : Option Value → List va_E → Nat → Nat → Prop} (hi0 : 0 ≤ i) (hi6 : i + 6 ≤ L) (hL : L ≤ 3072) (hok : okT N T) (hc : cI n kd pl s a c N T) (hsh : sh s1 a1 N T) (e4 : s 4 = (xv xs i 1)) (e0 : a1 3 = a 0) (hx0 : 0 ≤ (xv xs i 1)) (hx1 : (xv xs i 1) ≤ s1 4) (h6 : s1 4 ≤ 600) (m45 : 0 ≤ s1 45) (m45' : s1 45 ≤ 500) (mt : tld s s1) (hin1 : ∀ i j, in32 (a1 i j)) (hnc : nc ≤ 50 + 12 * (t + 1)) (hns : ns ≤ 194358 + 503 * (t + 1) + wt pl) (k : ∀ n' kd' pl' s' a' c' s1' v1' a1' nm' nc' ns', LI (t + 1) n' kd' pl' s' a' c' s1' a1' nc' ns' → pm_E (some (L, xs)) 11 pm_mm0 779 [(0, .retAddr 0), (1, .ref 0), (2, .ref 18), (3, .int (iI i))] [] (ch n' kd' pl' s' a' c' (mc s1' v1' a1' nm')) nc' ns' Q) : pm_E (some (L, xs)) 11 pm_mm0 213 [(0, .retAddr 0), (1, .ref 0), (2, .ref 18), (3, .int (iI i))] [] (ch n kd pl s a c (mc s1 v1 a1 nm)) nc ns Q := by
  obtain ⟨⟨hW, hn50, hq50⟩, hS, hf, ⟨h4, h4'⟩, hb, ⟨ho0, ho1⟩, ⟨h14, h14'⟩, hA, hY⟩ := id hc
  have hp0 : pl 0 = 0 := hW.2.2.2.2.2.2
  refine pm_e_sim pm_a0_213 rfl ?_
  show pm_E _ _ _ 214 [(0, .retAddr 0), (1, .ref 0), (2, .ref 18), (3, .int (iI i))] [.ref 18] _ _ _ _
  refine pm_e_sim pm_a0_214 rfl ?_
  show pm_E _ _ _ 215 [(0, .retAddr 0), (1, .ref 0), (2, .ref 18), (3, .int (iI i))] [.retAddr 0, .ref 18] _ _ _ _
  refine pm_e_sim pm_a0_215 rfl ?_
  show pm_E _ _ _ 216 [(0, .retAddr 0), (1, .ref 0), (2, .ref 18), (3, .int (iI i))] [.int (iI i), .retAddr 0, .ref 18] _ _ _ _
  refine pm_e_sim pm_a0_216 rfl ?_
  refine pm_e_top (y := iI 1) (by decide +kernel) ?_
  show pm_E _ _ _ 217 [(0, .retAddr 0), (1, .ref 0), (2, .ref 18), (3, .int (iI i))] [.int (iI 1), .int (iI i), .retAddr 0, .ref 18] _ _ _ _
  refine pm_e_sim pm_a0_217 rfl ?_
  refine pm_e_top (y := iI (i + 1)) (iI_add _ _) ?_
  show pm_E _ _ _ 218 [(0, .retAddr 0), (1, .ref 0), (2, .ref 18), (3, .int (iI i))] [.int (iI (i + 1)), .retAddr 0, .ref 18] _ _ _ _
  refine pm_e_sld (j := (i + 1).toNat) pm_a0_218 (pm_ix_I (by omega) (by omega) ⟨by omega, by omega⟩) ?_
  refine pm_e_top (y := iI (xv xs i 1)) (iI_of _).symm ?_
  show pm_E _ _ _ 219 [(0, .retAddr 0), (1, .ref 0), (2, .ref 18), (3, .int (iI i))] [.int (iI (xv xs i 1)), .ref 18] _ _ _ _
  rw [ch_mh hW hn50 hq50]
  refine pm_i_callv (k := 18) (T2 := pm_mm146) pm_a0_219 rfl rfl rfl (mh_get (j := 0) kA18_len rfl) ⟨Nat.le_of_ble_eq_true rfl, Nat.le_of_ble_eq_true rfl, rfl, by decide +kernel⟩ ?_
  show pm_E none _ _ 0 [(0, .ref 18), (1, .int (iI (xv xs i 1)))] [] _ _ _ _
  refine M_end kA18_len xv_in (by omega) h6 (fun _ _ => ?_) (fun z => absurd z (by omega))
  · skip
    rw [← ch_mh hW hn50 hq50]
    show pm_E _ _ _ 222 [(0, .retAddr 0), (1, .ref 0), (2, .ref 18), (3, .int (iI i))] [.int (iI (s1 4))] _ _ _ _
    refine pm_e_sim pm_a0_222 rfl ?_
    show pm_E _ _ _ 223 [(0, .retAddr 0), (1, .ref 0), (2, .ref 18), (3, .int (iI i))] [] _ _ _ _
    refine pm_e_goto pm_a0_223 rfl ?_
    show pm_E _ _ _ 779 [(0, .retAddr 0), (1, .ref 0), (2, .ref 18), (3, .int (iI i))] [] _ _ _ _
    exact k _ _ _ _ _ _ _ _ _ _ _ _ ⟨N, T, hok, hc, ⟨sh_fr hsh rfl rfl rfl, e4.symm, e0, m45, m45', tld_m mt rfl rfl rfl⟩, by omega, by omega⟩
set_option maxHeartbeats 4000000 in
set_option maxRecDepth 100000 in
theorem LM_end2 {L : Nat} {xs : Nat → Int32} {t n nc ns : Nat} {kd pl : Nat → Nat} {s : Nat → Int} {a : Nat → Int → Int} {c : Nat → cdt} {s1 : Nat → Int} {v1 : Int64} {a1 : Nat → Int → Int} {nm : Nat → Int64} {N i : Int} {T : Int → List Int} {Q : Option Value → List va_E → Nat → Nat → Prop} (hi0 : 0 ≤ i) (hi6 : i + 6 ≤ L) (hL : L ≤ 3072) (hok : okT N T) (hc : cI n kd pl s a c N T) (hm : mI s a s1 a1 N T) (hin1 : ∀ i j, in32 (a1 i j)) (hnc : nc ≤ 50 + 12 * (t + 1)) (hns : ns ≤ 194358 + 503 * (t + 1) + wt pl) (hx : (xv xs i 1) < 0 ∨ s 4 < (xv xs i 1)) (k : ∀ n' kd' pl' s' a' c' s1' v1' a1' nm' nc' ns', LI (t + 1) n' kd' pl' s' a' c' s1' a1' nc' ns' → pm_E (some (L, xs)) 11 pm_mm0 779 [(0, .retAddr 0), (1, .ref 0), (2, .ref 18), (3, .int (iI i))] [] (ch n' kd' pl' s' a' c' (mc s1' v1' a1' nm')) nc' ns' Q) : pm_E (some (L, xs)) 11 pm_mm0 213 [(0, .retAddr 0), (1, .ref 0), (2, .ref 18), (3, .int (iI i))] [] (ch n kd pl s a c (mc s1 v1 a1 nm)) nc ns Q := by
  obtain ⟨⟨hW, hn50, hq50⟩, hS, hf, ⟨h4, h4'⟩, hb, ⟨ho0, ho1⟩, ⟨h14, h14'⟩, hA, hY⟩ := id hc
  have hp0 : pl 0 = 0 := hW.2.2.2.2.2.2
  obtain ⟨hsh, m4, m3, m45, m45', mt⟩ := id hm
  obtain ⟨hN0, hN32, hT⟩ := id hok
  have s0 : s 0 = N := hS.1
  have m0 : s1 0 = N := hsh.1
  refine pm_e_sim pm_a0_213 rfl ?_
  show pm_E _ _ _ 214 [(0, .retAddr 0), (1, .ref 0), (2, .ref 18), (3, .int (iI i))] [.ref 18] _ _ _ _
  refine pm_e_sim pm_a0_214 rfl ?_
  show pm_E _ _ _ 215 [(0, .retAddr 0), (1, .ref 0), (2, .ref 18), (3, .int (iI i))] [.retAddr 0, .ref 18] _ _ _ _
  refine pm_e_sim pm_a0_215 rfl ?_
  show pm_E _ _ _ 216 [(0, .retAddr 0), (1, .ref 0), (2, .ref 18), (3, .int (iI i))] [.int (iI i), .retAddr 0, .ref 18] _ _ _ _
  refine pm_e_sim pm_a0_216 rfl ?_
  refine pm_e_top (y := iI 1) (by decide +kernel) ?_
  show pm_E _ _ _ 217 [(0, .retAddr 0), (1, .ref 0), (2, .ref 18), (3, .int (iI i))] [.int (iI 1), .int (iI i), .retAddr 0, .ref 18] _ _ _ _
  refine pm_e_sim pm_a0_217 rfl ?_
  refine pm_e_top (y := iI (i + 1)) (iI_add _ _) ?_
  show pm_E _ _ _ 218 [(0, .retAddr 0), (1, .ref 0), (2, .ref 18), (3, .int (iI i))] [.int (iI (i + 1)), .retAddr 0, .ref 18] _ _ _ _
  refine pm_e_sld (j := (i + 1).toNat) pm_a0_218 (pm_ix_I (by omega) (by omega) ⟨by omega, by omega⟩) ?_
  refine pm_e_top (y := iI (xv xs i 1)) (iI_of _).symm ?_
  show pm_E _ _ _ 219 [(0, .retAddr 0), (1, .ref 0), (2, .ref 18), (3, .int (iI i))] [.int (iI (xv xs i 1)), .ref 18] _ _ _ _
  rw [ch_mh hW hn50 hq50]
  refine pm_i_callv (k := 18) (T2 := pm_mm146) pm_a0_219 rfl rfl rfl (mh_get (j := 0) kA18_len rfl) ⟨Nat.le_of_ble_eq_true rfl, Nat.le_of_ble_eq_true rfl, rfl, by decide +kernel⟩ ?_
  show pm_E none _ _ 0 [(0, .ref 18), (1, .int (iI (xv xs i 1)))] [] _ _ _ _
  refine M_end kA18_len xv_in (by omega) (by omega) (fun _ _ => ?_) (fun _ => ?_)
  · skip
    exfalso; omega
  · skip
    rw [← ch_mh hW hn50 hq50]
    show pm_E _ _ _ 222 [(0, .retAddr 0), (1, .ref 0), (2, .ref 18), (3, .int (iI i))] [.int (iI (-1))] _ _ _ _
    refine pm_e_sim pm_a0_222 rfl ?_
    show pm_E _ _ _ 223 [(0, .retAddr 0), (1, .ref 0), (2, .ref 18), (3, .int (iI i))] [] _ _ _ _
    refine pm_e_goto pm_a0_223 rfl ?_
    show pm_E _ _ _ 779 [(0, .retAddr 0), (1, .ref 0), (2, .ref 18), (3, .int (iI i))] [] _ _ _ _
    exact k _ _ _ _ _ _ _ _ _ _ _ _ ⟨N, T, hok, hc, hm, by omega, by omega⟩
set_option maxHeartbeats 4000000 in
set_option maxRecDepth 100000 in
theorem LC_end {L : Nat} {xs : Nat → Int32} {t n nc ns : Nat} {kd pl : Nat → Nat} {s : Nat → Int} {a : Nat → Int → Int} {c : Nat → cdt} {s1 : Nat → Int} {v1 : Int64} {a1 : Nat → Int → Int} {nm : Nat → Int64} {N i : Int} {T : Int → List Int} {Q : Option Value → List va_E → Nat → Nat → Prop} (hi0 : 0 ≤ i) (hi6 : i + 6 ≤ L) (hL : L ≤ 3072) (hok : okT N T) (hc : cI n kd pl s a c N T) (hm : mI s a s1 a1 N T) (hs : ∀ i, in32 (s i)) (hin : ∀ i j, in32 (a i j)) (hin1 : ∀ i j, in32 (a1 i j)) (hnc : nc ≤ 50 + 12 * t) (hns : ns ≤ 194358 + 503 * t + wt pl) (k : ∀ n' kd' pl' s' a' c' s1' v1' a1' nm' nc' ns', LI (t + 1) n' kd' pl' s' a' c' s1' a1' nc' ns' → pm_E (some (L, xs)) 11 pm_mm0 779 [(0, .retAddr 0), (1, .ref 0), (2, .ref 18), (3, .int (iI i))] [] (ch n' kd' pl' s' a' c' (mc s1' v1' a1' nm')) nc' ns' Q) : pm_E (some (L, xs)) 11 pm_mm0 203 [(0, .retAddr 0), (1, .ref 0), (2, .ref 18), (3, .int (iI i))] [] (ch n kd pl s a c (mc s1 v1 a1 nm)) nc ns Q := by
  obtain ⟨⟨hW, hn50, hq50⟩, hS, hf, ⟨h4, h4'⟩, hb, ⟨ho0, ho1⟩, ⟨h14, h14'⟩, hA, hY⟩ := id hc
  have hp0 : pl 0 = 0 := hW.2.2.2.2.2.2
  obtain ⟨hsh, m4, m3, m45, m45', mt⟩ := id hm
  obtain ⟨hN0, hN32, hT⟩ := id hok
  have s0 : s 0 = N := hS.1
  have m0 : s1 0 = N := hsh.1
  refine pm_e_sim pm_a0_203 rfl ?_
  show pm_E _ _ _ 204 [(0, .retAddr 0), (1, .ref 0), (2, .ref 18), (3, .int (iI i))] [.ref 0] _ _ _ _
  refine pm_e_sim pm_a0_204 rfl ?_
  show pm_E _ _ _ 205 [(0, .retAddr 0), (1, .ref 0), (2, .ref 18), (3, .int (iI i))] [.retAddr 0, .ref 0] _ _ _ _
  refine pm_e_sim pm_a0_205 rfl ?_
  show pm_E _ _ _ 206 [(0, .retAddr 0), (1, .ref 0), (2, .ref 18), (3, .int (iI i))] [.int (iI i), .retAddr 0, .ref 0] _ _ _ _
  refine pm_e_sim pm_a0_206 rfl ?_
  refine pm_e_top (y := iI 1) (by decide +kernel) ?_
  show pm_E _ _ _ 207 [(0, .retAddr 0), (1, .ref 0), (2, .ref 18), (3, .int (iI i))] [.int (iI 1), .int (iI i), .retAddr 0, .ref 0] _ _ _ _
  refine pm_e_sim pm_a0_207 rfl ?_
  refine pm_e_top (y := iI (i + 1)) (iI_add _ _) ?_
  show pm_E _ _ _ 208 [(0, .retAddr 0), (1, .ref 0), (2, .ref 18), (3, .int (iI i))] [.int (iI (i + 1)), .retAddr 0, .ref 0] _ _ _ _
  refine pm_e_sld (j := (i + 1).toNat) pm_a0_208 (pm_ix_I (by omega) (by omega) ⟨by omega, by omega⟩) ?_
  refine pm_e_top (y := iI (xv xs i 1)) (iI_of _).symm ?_
  show pm_E _ _ _ 209 [(0, .retAddr 0), (1, .ref 0), (2, .ref 18), (3, .int (iI i))] [.int (iI (xv xs i 1)), .ref 0] _ _ _ _
  refine pm_i_callv (k := 0) (T2 := pm_mm10) pm_a0_209 rfl rfl rfl (cg0 hW) ⟨Nat.le_of_ble_eq_true rfl, Nat.le_of_ble_eq_true rfl, rfl, by decide +kernel⟩ ?_
  show pm_E none _ _ 0 ((0, .ref 0) :: [(1, .int (iI (xv xs i 1)))]) [] _ _ _ _
  refine pm_e_lv0 hp0 ?_
  refine C_end hW xv_in (by omega) (by omega) (fun x0 x1 => ?_) (fun hx => ?_)
  · skip
    show pm_E _ _ _ 212 [(0, .retAddr 0), (1, .ref 0), (2, .ref 18), (3, .int (iI i))] [.int (iI (s 4))] _ _ _ _
    refine pm_e_sim pm_a0_212 rfl ?_
    show pm_E _ _ _ 213 [(0, .retAddr 0), (1, .ref 0), (2, .ref 18), (3, .int (iI i))] [] _ _ _ _
    exact LM_end1 hi0 hi6 hL hok (cI_s hc rfl (by show 0 ≤ (xv xs i 1) ∧ (xv xs i 1) ≤ 600; omega) ⟨h14, h14'⟩ hb) hsh rfl m3 x0 (by omega) (by omega) m45 m45' (tld_c mt rfl rfl rfl) hin1 (by omega) (by omega) k
  · skip
    show pm_E _ _ _ 212 [(0, .retAddr 0), (1, .ref 0), (2, .ref 18), (3, .int (iI i))] [.int (iI (-1))] _ _ _ _
    refine pm_e_sim pm_a0_212 rfl ?_
    show pm_E _ _ _ 213 [(0, .retAddr 0), (1, .ref 0), (2, .ref 18), (3, .int (iI i))] [] _ _ _ _
    exact LM_end2 hi0 hi6 hL hok hc hm hin1 (by omega) (by omega) hx k
theorem okT_add {N : Int} {T : Int → List Int} {l : List Int} {F : Nat} (h : okT N T) (hN : N < 32) (ht : tL F 0 l) (hl : l.length ≤ 500) : okT (N + 1) (upT T N l) := by
  obtain ⟨h1, h2, h3⟩ := h
  refine ⟨by omega, by omega, fun t t0 t1 => ?_⟩
  unfold upT
  split
  · exact ⟨hl, F, ht⟩
  · exact h3 t t0 (by omega)
theorem h23_x {j n n' : Nat} {kd pl kd' pl' : Nat → Nat} {s : Nat → Int} {a : Nat → Int → Int} {c c' : Nat → cdt} {N : Int} {T : Int → List Int} (h : cI n kd pl s a c N T) (hg : grx j n kd pl n' kd' pl') (hj : 6 ≤ j ∧ j < 38) (h2 : c' 2 = c 2) (h3 : c' 3 = c 3) : (∀ k ∈ KA, pl' k = 0) ∨ (al n' kd' pl' 200 ∧ okx (rm 2) (c' 2) ∧ okx (rm 3) (c' 3)) := by
  rcases h.2.2.2.2.2.2.2.1 with z | ⟨z1, z2, z3⟩
  · refine Or.inl (fun k hk => ?_)
    have hk' := hk
    simp only [KA, List.mem_cons, List.not_mem_nil, or_false] at hk'
    rw [hg.2 k (by omega) (by omega)]
    exact z k hk
  · exact Or.inr ⟨(hg.1.2.2 _ z1).1, by rw [h2]; exact z2, by rw [h3]; exact z3⟩
set_option maxHeartbeats 4000000 in
set_option maxRecDepth 100000 in
theorem LM_term_f {L : Nat} {xs : Nat → Int32} {t n nc ns : Nat} {kd pl : Nat → Nat} {s : Nat → Int} {a : Nat → Int → Int} {c : Nat → cdt} {s1 : Nat → Int} {v1 : Int64} {a1 : Nat → Int → Int} {nm : Nat → Int64} {N i : Int} {T : Int → List Int} {Q : Option Value → List va_E → Nat → Nat → Prop} (hi0 : 0 ≤ i) (hi6 : i + 6 ≤ L) (hL : L ≤ 3072) (hok : okT N T) (hc : cI n kd pl s a c N T) (hm : mI s a s1 a1 N T) (hin1 : ∀ i j, in32 (a1 i j)) (hnc : nc ≤ 50 + 12 * (t + 1)) (hns : ns ≤ 194358 + 503 * (t + 1) + wt pl) (hN : N = 32) (k : ∀ n' kd' pl' s' a' c' s1' v1' a1' nm' nc' ns', LI (t + 1) n' kd' pl' s' a' c' s1' a1' nc' ns' → pm_E (some (L, xs)) 11 pm_mm0 779 [(0, .retAddr 0), (1, .ref 0), (2, .ref 18), (3, .int (iI i))] [] (ch n' kd' pl' s' a' c' (mc s1' v1' a1' nm')) nc' ns' Q) : pm_E (some (L, xs)) 11 pm_mm0 231 [(0, .retAddr 0), (1, .ref 0), (2, .ref 18), (3, .int (iI i))] [] (ch n kd pl s a c (mc s1 v1 a1 nm)) nc ns Q := by
  obtain ⟨⟨hW, hn50, hq50⟩, hS, hf, ⟨h4, h4'⟩, hb, ⟨ho0, ho1⟩, ⟨h14, h14'⟩, hA, hY⟩ := id hc
  have hp0 : pl 0 = 0 := hW.2.2.2.2.2.2
  obtain ⟨hsh, m4, m3, m45, m45', mt⟩ := id hm
  obtain ⟨hN0, hN32, hT⟩ := id hok
  have s0 : s 0 = N := hS.1
  have m0 : s1 0 = N := hsh.1
  refine pm_e_sim pm_a0_231 rfl ?_
  show pm_E _ _ _ 232 [(0, .retAddr 0), (1, .ref 0), (2, .ref 18), (3, .int (iI i))] [.ref 18] _ _ _ _
  rw [ch_mh hW hn50 hq50]
  refine pm_i_callv (k := 18) (T2 := pm_mm148) pm_a0_232 rfl rfl rfl (mh_get (j := 0) kA18_len rfl) ⟨Nat.le_of_ble_eq_true rfl, Nat.le_of_ble_eq_true rfl, rfl, by decide +kernel⟩ ?_
  show pm_E none _ _ 0 [(0, .ref 18)] [] _ _ _ _
  refine M_term kA18_len hin1 hok hsh (by rw [m3]; exact hb) (by omega) (by omega) (fun _ => ?_) (fun _ _ _ _ z => absurd z (by omega)) (fun l F _ _ _ z => absurd z (by omega))
  · skip
    rw [← ch_mh hW hn50 hq50]
    show pm_E _ _ _ 235 [(0, .retAddr 0), (1, .ref 0), (2, .ref 18), (3, .int (iI i))] [.int (iI (-3))] _ _ _ _
    refine pm_e_sim pm_a0_235 rfl ?_
    show pm_E _ _ _ 236 [(0, .retAddr 0), (1, .ref 0), (2, .ref 18), (3, .int (iI i))] [] _ _ _ _
    refine pm_e_goto pm_a0_236 rfl ?_
    show pm_E _ _ _ 779 [(0, .retAddr 0), (1, .ref 0), (2, .ref 18), (3, .int (iI i))] [] _ _ _ _
    exact k _ _ _ _ _ _ _ _ _ _ _ _ ⟨N, T, hok, hc, hm, by omega, by omega⟩
set_option maxHeartbeats 4000000 in
set_option maxRecDepth 100000 in
theorem LM_term_n {L : Nat} {xs : Nat → Int32} {t n nc ns : Nat} {kd pl : Nat → Nat} {s : Nat → Int} {a : Nat → Int → Int} {c : Nat → cdt} {s1 : Nat → Int} {v1 : Int64} {a1 : Nat → Int → Int} {nm : Nat → Int64} {N i : Int} {T : Int → List Int} {Q : Option Value → List va_E → Nat → Nat → Prop} {e9 p : Int} (hi0 : 0 ≤ i) (hi6 : i + 6 ≤ L) (hL : L ≤ 3072) (hok : okT N T) (hc : cI n kd pl s a c N T) (hsh : sh s1 a1 N T) (e4 : s 4 = 0) (e0 : a1 3 = a 0) (q0 : 0 ≤ s1 4) (q6 : s1 4 ≤ 600) (hp : prT (a1 3) (s1 4) = .inl (e9, p)) (hs1 : s 1 = e9) (hlt : N < 32) (m45 : 0 ≤ s1 45) (m45' : s1 45 ≤ 500) (mt : tl2 s s1) (hin1 : ∀ i j, in32 (a1 i j)) (hnc : nc ≤ 50 + 12 * (t + 1)) (hns : ns ≤ 194358 + 503 * (t + 1) + wt pl) (k : ∀ n' kd' pl' s' a' c' s1' v1' a1' nm' nc' ns', LI (t + 1) n' kd' pl' s' a' c' s1' a1' nc' ns' → pm_E (some (L, xs)) 11 pm_mm0 779 [(0, .retAddr 0), (1, .ref 0), (2, .ref 18), (3, .int (iI i))] [] (ch n' kd' pl' s' a' c' (mc s1' v1' a1' nm')) nc' ns' Q) : pm_E (some (L, xs)) 11 pm_mm0 231 [(0, .retAddr 0), (1, .ref 0), (2, .ref 18), (3, .int (iI i))] [] (ch n kd pl s a c (mc s1 v1 a1 nm)) nc ns Q := by
  obtain ⟨⟨hW, hn50, hq50⟩, hS, hf, ⟨h4, h4'⟩, hb, ⟨ho0, ho1⟩, ⟨h14, h14'⟩, hA, hY⟩ := id hc
  have hp0 : pl 0 = 0 := hW.2.2.2.2.2.2
  have s0 : s1 0 = N := hsh.1
  refine pm_e_sim pm_a0_231 rfl ?_
  show pm_E _ _ _ 232 [(0, .retAddr 0), (1, .ref 0), (2, .ref 18), (3, .int (iI i))] [.ref 18] _ _ _ _
  rw [ch_mh hW hn50 hq50]
  refine pm_i_callv (k := 18) (T2 := pm_mm148) pm_a0_232 rfl rfl rfl (mh_get (j := 0) kA18_len rfl) ⟨Nat.le_of_ble_eq_true rfl, Nat.le_of_ble_eq_true rfl, rfl, by decide +kernel⟩ ?_
  show pm_E none _ _ 0 [(0, .ref 18)] [] _ _ _ _
  refine M_term kA18_len hin1 hok hsh (by rw [e0]; exact hb) q0 q6 (fun z => absurd z (by omega)) (fun e8 p8 z zf _ s1' v1' a1' nm' g13 f0 f4 f5 f1 f2 f3 => ?_) (fun l F z => by rw [hp] at z; cases z)
  obtain ⟨z8, z9⟩ : e9 = e8 ∧ p = p8 := by rw [hp] at z; cases z; exact ⟨rfl, rfl⟩
  subst z8; subst z9
  · skip
    rw [← ch_mh hW hn50 hq50]
    show pm_E _ _ _ 235 [(0, .retAddr 0), (1, .ref 0), (2, .ref 18), (3, .int (iI i))] [.int (iI (-10 - p))] _ _ _ _
    refine pm_e_sim pm_a0_235 rfl ?_
    show pm_E _ _ _ 236 [(0, .retAddr 0), (1, .ref 0), (2, .ref 18), (3, .int (iI i))] [] _ _ _ _
    refine pm_e_goto pm_a0_236 rfl ?_
    show pm_E _ _ _ 779 [(0, .retAddr 0), (1, .ref 0), (2, .ref 18), (3, .int (iI i))] [] _ _ _ _
    exact k _ _ _ _ _ _ _ _ _ _ _ _ ⟨N, T, hok, hc, ⟨sh_fr hsh (f0.trans s0.symm) f1 f2, f4.trans e4.symm, f3.trans e0, by omega, by omega, tl2_m mt f5.2.1 f5.2.2, g13.trans hs1.symm, by rw [g13]; exact ⟨by omega, by omega⟩⟩, by omega, by omega⟩
set_option maxHeartbeats 4000000 in
set_option maxRecDepth 100000 in
theorem LM_term_s {L : Nat} {xs : Nat → Int32} {t n nc ns : Nat} {kd pl : Nat → Nat} {s : Nat → Int} {a : Nat → Int → Int} {c : Nat → cdt} {s1 : Nat → Int} {v1 : Int64} {a1 : Nat → Int → Int} {nm : Nat → Int64} {N i : Int} {T : Int → List Int} {Q : Option Value → List va_E → Nat → Nat → Prop} {l : List Int} (hi0 : 0 ≤ i) (hi6 : i + 6 ≤ L) (hL : L ≤ 3072) (hok : okT N T) (hc : cI n kd pl s a c (N + 1) (upT T N l)) (hsh : sh s1 a1 N T) (e4 : s 4 = 0) (e0 : a1 3 = a 0) (q0 : 0 ≤ s1 4) (q6 : s1 4 ≤ 600) (hp : prT (a1 3) (s1 4) = .inr l) (hs1 : s 1 = 0) (hlt : N < 32) (m45 : 0 ≤ s1 45) (m45' : s1 45 ≤ 500) (mt : tl2 s s1) (hin1 : ∀ i j, in32 (a1 i j)) (hnc : nc ≤ 50 + 12 * (t + 1)) (hns : ns ≤ 194358 + 503 * (t + 1) + wt pl) (k : ∀ n' kd' pl' s' a' c' s1' v1' a1' nm' nc' ns', LI (t + 1) n' kd' pl' s' a' c' s1' a1' nc' ns' → pm_E (some (L, xs)) 11 pm_mm0 779 [(0, .retAddr 0), (1, .ref 0), (2, .ref 18), (3, .int (iI i))] [] (ch n' kd' pl' s' a' c' (mc s1' v1' a1' nm')) nc' ns' Q) : pm_E (some (L, xs)) 11 pm_mm0 231 [(0, .retAddr 0), (1, .ref 0), (2, .ref 18), (3, .int (iI i))] [] (ch n kd pl s a c (mc s1 v1 a1 nm)) nc ns Q := by
  obtain ⟨⟨hW, hn50, hq50⟩, hS, hf, ⟨h4, h4'⟩, hb, ⟨ho0, ho1⟩, ⟨h14, h14'⟩, hA, hY⟩ := id hc
  have hp0 : pl 0 = 0 := hW.2.2.2.2.2.2
  refine pm_e_sim pm_a0_231 rfl ?_
  show pm_E _ _ _ 232 [(0, .retAddr 0), (1, .ref 0), (2, .ref 18), (3, .int (iI i))] [.ref 18] _ _ _ _
  rw [ch_mh hW hn50 hq50]
  refine pm_i_callv (k := 18) (T2 := pm_mm148) pm_a0_232 rfl rfl rfl (mh_get (j := 0) kA18_len rfl) ⟨Nat.le_of_ble_eq_true rfl, Nat.le_of_ble_eq_true rfl, rfl, by decide +kernel⟩ ?_
  show pm_E none _ _ 0 [(0, .ref 18)] [] _ _ _ _
  refine M_term kA18_len hin1 hok hsh (by rw [e0]; exact hb) q0 q6 (fun z => absurd z (by omega)) (fun e8 p8 z => by rw [hp] at z; cases z) (fun l' F z z1 z2 _ s1' v1' a1' nm' g13 f0 f4 f5 f3 => ?_)
  · skip
    rw [← ch_mh hW hn50 hq50]
    show pm_E _ _ _ 235 [(0, .retAddr 0), (1, .ref 0), (2, .ref 18), (3, .int (iI i))] [.int (iI N)] _ _ _ _
    refine pm_e_sim pm_a0_235 rfl ?_
    show pm_E _ _ _ 236 [(0, .retAddr 0), (1, .ref 0), (2, .ref 18), (3, .int (iI i))] [] _ _ _ _
    refine pm_e_goto pm_a0_236 rfl ?_
    show pm_E _ _ _ 779 [(0, .retAddr 0), (1, .ref 0), (2, .ref 18), (3, .int (iI i))] [] _ _ _ _
    rw [hp] at z; cases z
    exact k _ _ _ _ _ _ _ _ _ _ _ _ ⟨N + 1, _, okT_add hok hlt z1 z2, hc, ⟨f0, f4.trans e4.symm, f3.trans e0, by omega, by omega, tl2_m mt f5.2.1 f5.2.2, g13.trans hs1.symm, by rw [g13]; exact ⟨by omega, by omega⟩⟩, by omega, by omega⟩
set_option maxHeartbeats 4000000 in
set_option maxRecDepth 100000 in
theorem LC_term {L : Nat} {xs : Nat → Int32} {t n nc ns : Nat} {kd pl : Nat → Nat} {s : Nat → Int} {a : Nat → Int → Int} {c : Nat → cdt} {s1 : Nat → Int} {v1 : Int64} {a1 : Nat → Int → Int} {nm : Nat → Int64} {N i : Int} {T : Int → List Int} {Q : Option Value → List va_E → Nat → Nat → Prop} (hi0 : 0 ≤ i) (hi6 : i + 6 ≤ L) (hL : L ≤ 3072) (hok : okT N T) (hc : cI n kd pl s a c N T) (hm : mI s a s1 a1 N T) (hs : ∀ i, in32 (s i)) (hin : ∀ i j, in32 (a i j)) (hin1 : ∀ i j, in32 (a1 i j)) (hnc : nc ≤ 50 + 12 * t) (hns : ns ≤ 194358 + 503 * t + wt pl) (k : ∀ n' kd' pl' s' a' c' s1' v1' a1' nm' nc' ns', LI (t + 1) n' kd' pl' s' a' c' s1' a1' nc' ns' → pm_E (some (L, xs)) 11 pm_mm0 779 [(0, .retAddr 0), (1, .ref 0), (2, .ref 18), (3, .int (iI i))] [] (ch n' kd' pl' s' a' c' (mc s1' v1' a1' nm')) nc' ns' Q) : pm_E (some (L, xs)) 11 pm_mm0 226 [(0, .retAddr 0), (1, .ref 0), (2, .ref 18), (3, .int (iI i))] [] (ch n kd pl s a c (mc s1 v1 a1 nm)) nc ns Q := by
  obtain ⟨⟨hW, hn50, hq50⟩, hS, hf, ⟨h4, h4'⟩, hb, ⟨ho0, ho1⟩, ⟨h14, h14'⟩, hA, hY⟩ := id hc
  have hp0 : pl 0 = 0 := hW.2.2.2.2.2.2
  obtain ⟨hsh, m4, m3, m45, m45', mt⟩ := id hm
  obtain ⟨hN0, hN32, hT⟩ := id hok
  have s0 : s 0 = N := hS.1
  have m0 : s1 0 = N := hsh.1
  refine pm_e_sim pm_a0_226 rfl ?_
  show pm_E _ _ _ 227 [(0, .retAddr 0), (1, .ref 0), (2, .ref 18), (3, .int (iI i))] [.ref 0] _ _ _ _
  refine pm_i_callv (k := 0) (T2 := pm_mm11) pm_a0_227 rfl rfl rfl (cg0 hW) ⟨Nat.le_of_ble_eq_true rfl, Nat.le_of_ble_eq_true rfl, rfl, by decide +kernel⟩ ?_
  show pm_E none _ _ 0 ((0, .ref 0) :: []) [] _ _ _ _
  refine pm_e_lv0 hp0 ?_
  refine C_term hW (by omega) (by omega) h4 h4' hb hin (fun z => hf (s 0).toNat (by omega) (by omega)) (fun z => ?_) (fun l hp hlt n' kd' pl' y nc' ns' s' a' hg z1 z2 z3 z4 z0 z5 z6 z7 z8 => ?_) (fun e9 p hp he9 hlt n' kd' pl' y nc' ns' s' a' hg z1 z2 z3 z4 z0 z5 z6 z7 z8 => ?_)
  · skip
    show pm_E _ _ _ 230 [(0, .retAddr 0), (1, .ref 0), (2, .ref 18), (3, .int (iI i))] [.int (iI (-3))] _ _ _ _
    refine pm_e_sim pm_a0_230 rfl ?_
    show pm_E _ _ _ 231 [(0, .retAddr 0), (1, .ref 0), (2, .ref 18), (3, .int (iI i))] [] _ _ _ _
    exact LM_term_f hi0 hi6 hL hok hc hm hin1 (by omega) (by omega) (by omega) k
  · skip
    show pm_E _ _ _ 230 [(0, .retAddr 0), (1, .ref 0), (2, .ref 18), (3, .int (iI i))] [.int (iI (s 0))] _ _ _ _
    refine pm_e_sim pm_a0_230 rfl ?_
    show pm_E _ _ _ 231 [(0, .retAddr 0), (1, .ref 0), (2, .ref 18), (3, .int (iI i))] [] _ _ _ _
    have hC := cI_add (s' := s') (a' := a') (c' := c) hc hg.1 hlt z3 z4 z5 (by omega) (by rw [z7 14 (by omega)]; exact ⟨h14, h14'⟩) (by rw [z8 0 (by decide) (by decide) (by decide)]; exact hb) (fun i h2 h3 hj => rfl) (h23_x hc hg ⟨by omega, by omega⟩ rfl rfl) (fun k _ h2 h3 => hg.2 k h2 h3)
    exact LM_term_s hi0 hi6 hL hok hC hsh z6 (m3.trans (z8 0 (by decide) (by decide) (by decide)).symm) (by omega) (by omega) (by rw [m3, m4]; exact hp) z0 (by omega) m45 m45' (tl2_c mt.1 (z7 2 (by omega)) (z7 3 (by omega))) hin1 (by omega) (by have := wt_le hg.1 hW; omega) k
  · skip
    show pm_E _ _ _ 230 [(0, .retAddr 0), (1, .ref 0), (2, .ref 18), (3, .int (iI i))] [.int (iI (-10 - p))] _ _ _ _
    refine pm_e_sim pm_a0_230 rfl ?_
    show pm_E _ _ _ 231 [(0, .retAddr 0), (1, .ref 0), (2, .ref 18), (3, .int (iI i))] [] _ _ _ _
    have hC := cI_use (s' := s') (a' := a') (c' := c) hc hg.1 hlt z3 z4 z5 (by omega) (by rw [z7 14 (by omega)]; exact ⟨h14, h14'⟩) (by rw [z8 0 (by decide) (by decide) (by decide)]; exact hb) (fun i h2 h3 hj => rfl) (h23_x hc hg ⟨by omega, by omega⟩ rfl rfl) (fun k _ h2 h3 => hg.2 k h2 h3)
    exact LM_term_n hi0 hi6 hL hok hC hsh z6 (m3.trans (z8 0 (by decide) (by decide) (by decide)).symm) (by omega) (by omega) (by rw [m3, m4]; exact hp) z0 (by omega) m45 m45' (tl2_c mt.1 (z7 2 (by omega)) (z7 3 (by omega))) hin1 (by omega) (by have := wt_le hg.1 hW; omega) k
set_option maxHeartbeats 4000000 in
set_option maxRecDepth 100000 in
theorem LM_copy_b {L : Nat} {xs : Nat → Int32} {t n nc ns : Nat} {kd pl : Nat → Nat} {s : Nat → Int} {a : Nat → Int → Int} {c : Nat → cdt} {s1 : Nat → Int} {v1 : Int64} {a1 : Nat → Int → Int} {nm : Nat → Int64} {N i : Int} {T : Int → List Int} {Q : Option Value → List va_E → Nat → Nat → Prop} (hi0 : 0 ≤ i) (hi6 : i + 6 ≤ L) (hL : L ≤ 3072) (hok : okT N T) (hc : cI n kd pl s a c N T) (hm : mI s a s1 a1 N T) (hin1 : ∀ i j, in32 (a1 i j)) (hnc : nc ≤ 50 + 12 * (t + 1)) (hns : ns ≤ 194358 + 503 * (t + 1) + wt pl) (hx : (xv xs i 1) < 0 ∨ N ≤ (xv xs i 1) ∨ N = 32) (k : ∀ n' kd' pl' s' a' c' s1' v1' a1' nm' nc' ns', LI (t + 1) n' kd' pl' s' a' c' s1' a1' nc' ns' → pm_E (some (L, xs)) 11 pm_mm0 779 [(0, .retAddr 0), (1, .ref 0), (2, .ref 18), (3, .int (iI i))] [] (ch n' kd' pl' s' a' c' (mc s1' v1' a1' nm')) nc' ns' Q) : pm_E (some (L, xs)) 11 pm_mm0 384 [(0, .retAddr 0), (1, .ref 0), (2, .ref 18), (3, .int (iI i))] [] (ch n kd pl s a c (mc s1 v1 a1 nm)) nc ns Q := by
  obtain ⟨⟨hW, hn50, hq50⟩, hS, hf, ⟨h4, h4'⟩, hb, ⟨ho0, ho1⟩, ⟨h14, h14'⟩, hA, hY⟩ := id hc
  have hp0 : pl 0 = 0 := hW.2.2.2.2.2.2
  obtain ⟨hsh, m4, m3, m45, m45', mt⟩ := id hm
  obtain ⟨hN0, hN32, hT⟩ := id hok
  have s0 : s 0 = N := hS.1
  have m0 : s1 0 = N := hsh.1
  refine pm_e_sim pm_a0_384 rfl ?_
  show pm_E _ _ _ 385 [(0, .retAddr 0), (1, .ref 0), (2, .ref 18), (3, .int (iI i))] [.ref 18] _ _ _ _
  refine pm_e_sim pm_a0_385 rfl ?_
  show pm_E _ _ _ 386 [(0, .retAddr 0), (1, .ref 0), (2, .ref 18), (3, .int (iI i))] [.retAddr 0, .ref 18] _ _ _ _
  refine pm_e_sim pm_a0_386 rfl ?_
  show pm_E _ _ _ 387 [(0, .retAddr 0), (1, .ref 0), (2, .ref 18), (3, .int (iI i))] [.int (iI i), .retAddr 0, .ref 18] _ _ _ _
  refine pm_e_sim pm_a0_387 rfl ?_
  refine pm_e_top (y := iI 1) (by decide +kernel) ?_
  show pm_E _ _ _ 388 [(0, .retAddr 0), (1, .ref 0), (2, .ref 18), (3, .int (iI i))] [.int (iI 1), .int (iI i), .retAddr 0, .ref 18] _ _ _ _
  refine pm_e_sim pm_a0_388 rfl ?_
  refine pm_e_top (y := iI (i + 1)) (iI_add _ _) ?_
  show pm_E _ _ _ 389 [(0, .retAddr 0), (1, .ref 0), (2, .ref 18), (3, .int (iI i))] [.int (iI (i + 1)), .retAddr 0, .ref 18] _ _ _ _
  refine pm_e_sld (j := (i + 1).toNat) pm_a0_389 (pm_ix_I (by omega) (by omega) ⟨by omega, by omega⟩) ?_
  refine pm_e_top (y := iI (xv xs i 1)) (iI_of _).symm ?_
  show pm_E _ _ _ 390 [(0, .retAddr 0), (1, .ref 0), (2, .ref 18), (3, .int (iI i))] [.int (iI (xv xs i 1)), .ref 18] _ _ _ _
  rw [ch_mh hW hn50 hq50]
  refine pm_i_callv (k := 18) (T2 := pm_mm175) pm_a0_390 rfl rfl rfl (mh_get (j := 0) kA18_len rfl) ⟨Nat.le_of_ble_eq_true rfl, Nat.le_of_ble_eq_true rfl, rfl, by decide +kernel⟩ ?_
  show pm_E none _ _ 0 [(0, .ref 18), (1, .int (iI (xv xs i 1)))] [] _ _ _ _
  refine M_copy kA18_len xv_in (by omega) (by omega) (sh_sz hok hsh) (fun z1 z2 z3 => absurd hx (by omega)) (fun _ => ?_) (fun _ _ _ => ?_)
  · skip
    rw [← ch_mh hW hn50 hq50]
    show pm_E _ _ _ 393 [(0, .retAddr 0), (1, .ref 0), (2, .ref 18), (3, .int (iI i))] [.int (iI (-1))] _ _ _ _
    refine pm_e_sim pm_a0_393 rfl ?_
    show pm_E _ _ _ 394 [(0, .retAddr 0), (1, .ref 0), (2, .ref 18), (3, .int (iI i))] [] _ _ _ _
    refine pm_e_goto pm_a0_394 rfl ?_
    show pm_E _ _ _ 779 [(0, .retAddr 0), (1, .ref 0), (2, .ref 18), (3, .int (iI i))] [] _ _ _ _
    exact k _ _ _ _ _ _ _ _ _ _ _ _ ⟨N, T, hok, hc, hm, by omega, by omega⟩
  · skip
    rw [← ch_mh hW hn50 hq50]
    show pm_E _ _ _ 393 [(0, .retAddr 0), (1, .ref 0), (2, .ref 18), (3, .int (iI i))] [.int (iI (-3))] _ _ _ _
    refine pm_e_sim pm_a0_393 rfl ?_
    show pm_E _ _ _ 394 [(0, .retAddr 0), (1, .ref 0), (2, .ref 18), (3, .int (iI i))] [] _ _ _ _
    refine pm_e_goto pm_a0_394 rfl ?_
    show pm_E _ _ _ 779 [(0, .retAddr 0), (1, .ref 0), (2, .ref 18), (3, .int (iI i))] [] _ _ _ _
    exact k _ _ _ _ _ _ _ _ _ _ _ _ ⟨N, T, hok, hc, hm, by omega, by omega⟩
set_option maxHeartbeats 4000000 in
set_option maxRecDepth 100000 in
theorem LM_copy_k {L : Nat} {xs : Nat → Int32} {t n nc ns : Nat} {kd pl : Nat → Nat} {s : Nat → Int} {a : Nat → Int → Int} {c : Nat → cdt} {s1 : Nat → Int} {v1 : Int64} {a1 : Nat → Int → Int} {nm : Nat → Int64} {N i : Int} {T : Int → List Int} {Q : Option Value → List va_E → Nat → Nat → Prop} (hi0 : 0 ≤ i) (hi6 : i + 6 ≤ L) (hL : L ≤ 3072) (hok : okT N T) (hc : cI n kd pl s a c (N + 1) (upT T N (T (xv xs i 1)))) (hsh : sh s1 a1 N T) (e4 : s1 4 = s 4) (e0 : a1 3 = a 0) (hlt : N < 32) (x0 : 0 ≤ (xv xs i 1)) (x1 : (xv xs i 1) < N) (m45 : 0 ≤ s1 45) (m45' : s1 45 ≤ 500) (mt : tld s s1) (hin1 : ∀ i j, in32 (a1 i j)) (hnc : nc ≤ 50 + 12 * (t + 1)) (hns : ns ≤ 194358 + 503 * (t + 1) + wt pl) (k : ∀ n' kd' pl' s' a' c' s1' v1' a1' nm' nc' ns', LI (t + 1) n' kd' pl' s' a' c' s1' a1' nc' ns' → pm_E (some (L, xs)) 11 pm_mm0 779 [(0, .retAddr 0), (1, .ref 0), (2, .ref 18), (3, .int (iI i))] [] (ch n' kd' pl' s' a' c' (mc s1' v1' a1' nm')) nc' ns' Q) : pm_E (some (L, xs)) 11 pm_mm0 384 [(0, .retAddr 0), (1, .ref 0), (2, .ref 18), (3, .int (iI i))] [] (ch n kd pl s a c (mc s1 v1 a1 nm)) nc ns Q := by
  obtain ⟨⟨hW, hn50, hq50⟩, hS, hf, ⟨h4, h4'⟩, hb, ⟨ho0, ho1⟩, ⟨h14, h14'⟩, hA, hY⟩ := id hc
  have hp0 : pl 0 = 0 := hW.2.2.2.2.2.2
  obtain ⟨hN0, hN32, hT⟩ := id hok
  have m0 : s1 0 = N := hsh.1
  refine pm_e_sim pm_a0_384 rfl ?_
  show pm_E _ _ _ 385 [(0, .retAddr 0), (1, .ref 0), (2, .ref 18), (3, .int (iI i))] [.ref 18] _ _ _ _
  refine pm_e_sim pm_a0_385 rfl ?_
  show pm_E _ _ _ 386 [(0, .retAddr 0), (1, .ref 0), (2, .ref 18), (3, .int (iI i))] [.retAddr 0, .ref 18] _ _ _ _
  refine pm_e_sim pm_a0_386 rfl ?_
  show pm_E _ _ _ 387 [(0, .retAddr 0), (1, .ref 0), (2, .ref 18), (3, .int (iI i))] [.int (iI i), .retAddr 0, .ref 18] _ _ _ _
  refine pm_e_sim pm_a0_387 rfl ?_
  refine pm_e_top (y := iI 1) (by decide +kernel) ?_
  show pm_E _ _ _ 388 [(0, .retAddr 0), (1, .ref 0), (2, .ref 18), (3, .int (iI i))] [.int (iI 1), .int (iI i), .retAddr 0, .ref 18] _ _ _ _
  refine pm_e_sim pm_a0_388 rfl ?_
  refine pm_e_top (y := iI (i + 1)) (iI_add _ _) ?_
  show pm_E _ _ _ 389 [(0, .retAddr 0), (1, .ref 0), (2, .ref 18), (3, .int (iI i))] [.int (iI (i + 1)), .retAddr 0, .ref 18] _ _ _ _
  refine pm_e_sld (j := (i + 1).toNat) pm_a0_389 (pm_ix_I (by omega) (by omega) ⟨by omega, by omega⟩) ?_
  refine pm_e_top (y := iI (xv xs i 1)) (iI_of _).symm ?_
  show pm_E _ _ _ 390 [(0, .retAddr 0), (1, .ref 0), (2, .ref 18), (3, .int (iI i))] [.int (iI (xv xs i 1)), .ref 18] _ _ _ _
  rw [ch_mh hW hn50 hq50]
  refine pm_i_callv (k := 18) (T2 := pm_mm175) pm_a0_390 rfl rfl rfl (mh_get (j := 0) kA18_len rfl) ⟨Nat.le_of_ble_eq_true rfl, Nat.le_of_ble_eq_true rfl, rfl, by decide +kernel⟩ ?_
  show pm_E none _ _ 0 [(0, .ref 18), (1, .int (iI (xv xs i 1)))] [] _ _ _ _
  refine M_copy kA18_len xv_in (by omega) (by omega) (sh_sz hok hsh) (fun _ _ _ r hr => ?_) (fun z => absurd z (by omega)) (fun _ _ z => absurd z (by omega))
  · skip
    rw [← ch_mh hW hn50 hq50]
    show pm_E _ _ _ 393 [(0, .retAddr 0), (1, .ref 0), (2, .ref 18), (3, .int (iI i))] [.int (iI r)] _ _ _ _
    refine pm_e_sim pm_a0_393 rfl ?_
    show pm_E _ _ _ 394 [(0, .retAddr 0), (1, .ref 0), (2, .ref 18), (3, .int (iI i))] [] _ _ _ _
    refine pm_e_goto pm_a0_394 rfl ?_
    show pm_E _ _ _ 779 [(0, .retAddr 0), (1, .ref 0), (2, .ref 18), (3, .int (iI i))] [] _ _ _ _
    obtain ⟨y1, F, y2⟩ := hT _ x0 x1
    obtain ⟨y3, y4⟩ := hsh.2 _ x0 x1
    refine k _ _ _ _ _ _ _ _ _ _ _ _ ⟨N + 1, _, okT_add hok hlt y2 y1, hc, ⟨⟨by show s1 0 + 1 = N + 1; omega, ?_⟩, e4, e0, m45, m45', tld_m mt rfl rfl rfl⟩, by omega, by omega⟩
    rw [m0]
    exact sh_keep (b := updA a1 4 (cpI (a1 4) (a1 2) (500 * (xv xs i 1)) 0 (a1 1 (xv xs i 1)))) (n := N + 1) (x := N) (T := T) (l := T (xv xs i 1)) (by omega) (fun t t0 t1 t2 => ⟨(hT t t0 (by omega)).1, hsh.2 t t0 (by omega)⟩) y1 (sh_take hsh x0 x1) y3
set_option maxHeartbeats 4000000 in
set_option maxRecDepth 100000 in
theorem LC_copy {L : Nat} {xs : Nat → Int32} {t n nc ns : Nat} {kd pl : Nat → Nat} {s : Nat → Int} {a : Nat → Int → Int} {c : Nat → cdt} {s1 : Nat → Int} {v1 : Int64} {a1 : Nat → Int → Int} {nm : Nat → Int64} {N i : Int} {T : Int → List Int} {Q : Option Value → List va_E → Nat → Nat → Prop} (hi0 : 0 ≤ i) (hi6 : i + 6 ≤ L) (hL : L ≤ 3072) (hok : okT N T) (hc : cI n kd pl s a c N T) (hm : mI s a s1 a1 N T) (hs : ∀ i, in32 (s i)) (hin : ∀ i j, in32 (a i j)) (hin1 : ∀ i j, in32 (a1 i j)) (hnc : nc ≤ 50 + 12 * t) (hns : ns ≤ 194358 + 503 * t + wt pl) (k : ∀ n' kd' pl' s' a' c' s1' v1' a1' nm' nc' ns', LI (t + 1) n' kd' pl' s' a' c' s1' a1' nc' ns' → pm_E (some (L, xs)) 11 pm_mm0 779 [(0, .retAddr 0), (1, .ref 0), (2, .ref 18), (3, .int (iI i))] [] (ch n' kd' pl' s' a' c' (mc s1' v1' a1' nm')) nc' ns' Q) : pm_E (some (L, xs)) 11 pm_mm0 374 [(0, .retAddr 0), (1, .ref 0), (2, .ref 18), (3, .int (iI i))] [] (ch n kd pl s a c (mc s1 v1 a1 nm)) nc ns Q := by
  obtain ⟨⟨hW, hn50, hq50⟩, hS, hf, ⟨h4, h4'⟩, hb, ⟨ho0, ho1⟩, ⟨h14, h14'⟩, hA, hY⟩ := id hc
  have hp0 : pl 0 = 0 := hW.2.2.2.2.2.2
  obtain ⟨hsh, m4, m3, m45, m45', mt⟩ := id hm
  obtain ⟨hN0, hN32, hT⟩ := id hok
  have s0 : s 0 = N := hS.1
  have m0 : s1 0 = N := hsh.1
  refine pm_e_sim pm_a0_374 rfl ?_
  show pm_E _ _ _ 375 [(0, .retAddr 0), (1, .ref 0), (2, .ref 18), (3, .int (iI i))] [.ref 0] _ _ _ _
  refine pm_e_sim pm_a0_375 rfl ?_
  show pm_E _ _ _ 376 [(0, .retAddr 0), (1, .ref 0), (2, .ref 18), (3, .int (iI i))] [.retAddr 0, .ref 0] _ _ _ _
  refine pm_e_sim pm_a0_376 rfl ?_
  show pm_E _ _ _ 377 [(0, .retAddr 0), (1, .ref 0), (2, .ref 18), (3, .int (iI i))] [.int (iI i), .retAddr 0, .ref 0] _ _ _ _
  refine pm_e_sim pm_a0_377 rfl ?_
  refine pm_e_top (y := iI 1) (by decide +kernel) ?_
  show pm_E _ _ _ 378 [(0, .retAddr 0), (1, .ref 0), (2, .ref 18), (3, .int (iI i))] [.int (iI 1), .int (iI i), .retAddr 0, .ref 0] _ _ _ _
  refine pm_e_sim pm_a0_378 rfl ?_
  refine pm_e_top (y := iI (i + 1)) (iI_add _ _) ?_
  show pm_E _ _ _ 379 [(0, .retAddr 0), (1, .ref 0), (2, .ref 18), (3, .int (iI i))] [.int (iI (i + 1)), .retAddr 0, .ref 0] _ _ _ _
  refine pm_e_sld (j := (i + 1).toNat) pm_a0_379 (pm_ix_I (by omega) (by omega) ⟨by omega, by omega⟩) ?_
  refine pm_e_top (y := iI (xv xs i 1)) (iI_of _).symm ?_
  show pm_E _ _ _ 380 [(0, .retAddr 0), (1, .ref 0), (2, .ref 18), (3, .int (iI i))] [.int (iI (xv xs i 1)), .ref 0] _ _ _ _
  refine pm_i_callv (k := 0) (T2 := pm_mm60) pm_a0_380 rfl rfl rfl (cg0 hW) ⟨Nat.le_of_ble_eq_true rfl, Nat.le_of_ble_eq_true rfl, rfl, by decide +kernel⟩ ?_
  show pm_E none _ _ 0 ((0, .ref 0) :: [(1, .int (iI (xv xs i 1)))]) [] _ _ _ _
  refine pm_e_lv0 hp0 ?_
  refine C_copy hW hS hT xv_in (fun z => hf (s 0).toNat (by omega) (by omega)) (fun z => ?_) (fun _ _ z => ?_) (fun x0 x1 hlt n' kd' pl' y nc' ns' hg z1 z2 z3 z4 => ?_)
  · skip
    show pm_E _ _ _ 383 [(0, .retAddr 0), (1, .ref 0), (2, .ref 18), (3, .int (iI i))] [.int (iI (-1))] _ _ _ _
    refine pm_e_sim pm_a0_383 rfl ?_
    show pm_E _ _ _ 384 [(0, .retAddr 0), (1, .ref 0), (2, .ref 18), (3, .int (iI i))] [] _ _ _ _
    exact LM_copy_b hi0 hi6 hL hok hc hm hin1 (by omega) (by omega) (by omega) k
  · skip
    show pm_E _ _ _ 383 [(0, .retAddr 0), (1, .ref 0), (2, .ref 18), (3, .int (iI i))] [.int (iI (-3))] _ _ _ _
    refine pm_e_sim pm_a0_383 rfl ?_
    show pm_E _ _ _ 384 [(0, .retAddr 0), (1, .ref 0), (2, .ref 18), (3, .int (iI i))] [] _ _ _ _
    exact LM_copy_b hi0 hi6 hL hok hc hm hin1 (by omega) (by omega) (by omega) k
  · skip
    show pm_E _ _ _ 383 [(0, .retAddr 0), (1, .ref 0), (2, .ref 18), (3, .int (iI i))] [.int (iI (s 0))] _ _ _ _
    refine pm_e_sim pm_a0_383 rfl ?_
    show pm_E _ _ _ 384 [(0, .retAddr 0), (1, .ref 0), (2, .ref 18), (3, .int (iI i))] [] _ _ _ _
    have hC := cI_add (s' := updS s 0 (s 0 + 1)) (a' := a) (c' := c) hc hg.1 hlt z3 z4 rfl ⟨h4, h4'⟩ ⟨h14, h14'⟩ hb (fun i h2 h3 hj => rfl) (h23_x hc hg ⟨by omega, by omega⟩ rfl rfl) (fun k _ h2 h3 => hg.2 k h2 h3)
    exact LM_copy_k hi0 hi6 hL hok hC hsh m4 m3 (by omega) x0 x1 m45 m45' (tld_c mt rfl rfl rfl) hin1 (by omega) (by have := wt_le hg.1 hW; omega) k
set_option maxHeartbeats 4000000 in
set_option maxRecDepth 100000 in
theorem LM_apply_b {L : Nat} {xs : Nat → Int32} {t n nc ns : Nat} {kd pl : Nat → Nat} {s : Nat → Int} {a : Nat → Int → Int} {c : Nat → cdt} {s1 : Nat → Int} {v1 : Int64} {a1 : Nat → Int → Int} {nm : Nat → Int64} {N i : Int} {T : Int → List Int} {Q : Option Value → List va_E → Nat → Nat → Prop} (hi0 : 0 ≤ i) (hi6 : i + 6 ≤ L) (hL : L ≤ 3072) (hok : okT N T) (hc : cI n kd pl s a c N T) (hm : mI s a s1 a1 N T) (hin1 : ∀ i j, in32 (a1 i j)) (hnc : nc ≤ 50 + 12 * (t + 1)) (hns : ns ≤ 194358 + 503 * (t + 1) + wt pl) (hx : (xv xs i 1) < 0 ∨ N ≤ (xv xs i 1) ∨ (xv xs i 2) < 0 ∨ N ≤ (xv xs i 2) ∨ N = 32 ∨ 500 < (T (xv xs i 1)).length + (T (xv xs i 2)).length + 1) (k : ∀ n' kd' pl' s' a' c' s1' v1' a1' nm' nc' ns', LI (t + 1) n' kd' pl' s' a' c' s1' a1' nc' ns' → pm_E (some (L, xs)) 11 pm_mm0 779 [(0, .retAddr 0), (1, .ref 0), (2, .ref 18), (3, .int (iI i))] [] (ch n' kd' pl' s' a' c' (mc s1' v1' a1' nm')) nc' ns' Q) : pm_E (some (L, xs)) 11 pm_mm0 356 [(0, .retAddr 0), (1, .ref 0), (2, .ref 18), (3, .int (iI i))] [] (ch n kd pl s a c (mc s1 v1 a1 nm)) nc ns Q := by
  obtain ⟨⟨hW, hn50, hq50⟩, hS, hf, ⟨h4, h4'⟩, hb, ⟨ho0, ho1⟩, ⟨h14, h14'⟩, hA, hY⟩ := id hc
  have hp0 : pl 0 = 0 := hW.2.2.2.2.2.2
  obtain ⟨hsh, m4, m3, m45, m45', mt⟩ := id hm
  obtain ⟨hN0, hN32, hT⟩ := id hok
  have s0 : s 0 = N := hS.1
  have m0 : s1 0 = N := hsh.1
  refine pm_e_sim pm_a0_356 rfl ?_
  show pm_E _ _ _ 357 [(0, .retAddr 0), (1, .ref 0), (2, .ref 18), (3, .int (iI i))] [.ref 18] _ _ _ _
  refine pm_e_sim pm_a0_357 rfl ?_
  show pm_E _ _ _ 358 [(0, .retAddr 0), (1, .ref 0), (2, .ref 18), (3, .int (iI i))] [.retAddr 0, .ref 18] _ _ _ _
  refine pm_e_sim pm_a0_358 rfl ?_
  show pm_E _ _ _ 359 [(0, .retAddr 0), (1, .ref 0), (2, .ref 18), (3, .int (iI i))] [.int (iI i), .retAddr 0, .ref 18] _ _ _ _
  refine pm_e_sim pm_a0_359 rfl ?_
  refine pm_e_top (y := iI 1) (by decide +kernel) ?_
  show pm_E _ _ _ 360 [(0, .retAddr 0), (1, .ref 0), (2, .ref 18), (3, .int (iI i))] [.int (iI 1), .int (iI i), .retAddr 0, .ref 18] _ _ _ _
  refine pm_e_sim pm_a0_360 rfl ?_
  refine pm_e_top (y := iI (i + 1)) (iI_add _ _) ?_
  show pm_E _ _ _ 361 [(0, .retAddr 0), (1, .ref 0), (2, .ref 18), (3, .int (iI i))] [.int (iI (i + 1)), .retAddr 0, .ref 18] _ _ _ _
  refine pm_e_sld (j := (i + 1).toNat) pm_a0_361 (pm_ix_I (by omega) (by omega) ⟨by omega, by omega⟩) ?_
  refine pm_e_top (y := iI (xv xs i 1)) (iI_of _).symm ?_
  show pm_E _ _ _ 362 [(0, .retAddr 0), (1, .ref 0), (2, .ref 18), (3, .int (iI i))] [.int (iI (xv xs i 1)), .ref 18] _ _ _ _
  refine pm_e_sim pm_a0_362 rfl ?_
  show pm_E _ _ _ 363 [(0, .retAddr 0), (1, .ref 0), (2, .ref 18), (3, .int (iI i))] [.retAddr 0, .int (iI (xv xs i 1)), .ref 18] _ _ _ _
  refine pm_e_sim pm_a0_363 rfl ?_
  show pm_E _ _ _ 364 [(0, .retAddr 0), (1, .ref 0), (2, .ref 18), (3, .int (iI i))] [.int (iI i), .retAddr 0, .int (iI (xv xs i 1)), .ref 18] _ _ _ _
  refine pm_e_sim pm_a0_364 rfl ?_
  refine pm_e_top (y := iI 2) (by decide +kernel) ?_
  show pm_E _ _ _ 365 [(0, .retAddr 0), (1, .ref 0), (2, .ref 18), (3, .int (iI i))] [.int (iI 2), .int (iI i), .retAddr 0, .int (iI (xv xs i 1)), .ref 18] _ _ _ _
  refine pm_e_sim pm_a0_365 rfl ?_
  refine pm_e_top (y := iI (i + 2)) (iI_add _ _) ?_
  show pm_E _ _ _ 366 [(0, .retAddr 0), (1, .ref 0), (2, .ref 18), (3, .int (iI i))] [.int (iI (i + 2)), .retAddr 0, .int (iI (xv xs i 1)), .ref 18] _ _ _ _
  refine pm_e_sld (j := (i + 2).toNat) pm_a0_366 (pm_ix_I (by omega) (by omega) ⟨by omega, by omega⟩) ?_
  refine pm_e_top (y := iI (xv xs i 2)) (iI_of _).symm ?_
  show pm_E _ _ _ 367 [(0, .retAddr 0), (1, .ref 0), (2, .ref 18), (3, .int (iI i))] [.int (iI (xv xs i 2)), .int (iI (xv xs i 1)), .ref 18] _ _ _ _
  rw [ch_mh hW hn50 hq50]
  refine pm_i_callv (k := 18) (T2 := pm_mm174) pm_a0_367 rfl rfl rfl (mh_get (j := 0) kA18_len rfl) ⟨Nat.le_of_ble_eq_true rfl, Nat.le_of_ble_eq_true rfl, rfl, by decide +kernel⟩ ?_
  show pm_E none _ _ 0 [(0, .ref 18), (1, .int (iI (xv xs i 1))), (2, .int (iI (xv xs i 2)))] [] _ _ _ _
  refine M_apply kA18_len hin1 hok hsh xv_in xv_in (fun _ => ?_) (fun _ => ?_) (fun z z1 z2 => absurd hx (by have y1 := (hsh.2 _ z.1 z.2.1).1; have y2 := (hsh.2 _ z.2.2.1 z.2.2.2).1; omega))
  · skip
    rw [← ch_mh hW hn50 hq50]
    show pm_E _ _ _ 370 [(0, .retAddr 0), (1, .ref 0), (2, .ref 18), (3, .int (iI i))] [.int (iI (-1))] _ _ _ _
    refine pm_e_sim pm_a0_370 rfl ?_
    show pm_E _ _ _ 371 [(0, .retAddr 0), (1, .ref 0), (2, .ref 18), (3, .int (iI i))] [] _ _ _ _
    refine pm_e_goto pm_a0_371 rfl ?_
    show pm_E _ _ _ 779 [(0, .retAddr 0), (1, .ref 0), (2, .ref 18), (3, .int (iI i))] [] _ _ _ _
    exact k _ _ _ _ _ _ _ _ _ _ _ _ ⟨N, T, hok, hc, hm, by omega, by omega⟩
  · skip
    rw [← ch_mh hW hn50 hq50]
    show pm_E _ _ _ 370 [(0, .retAddr 0), (1, .ref 0), (2, .ref 18), (3, .int (iI i))] [.int (iI (-3))] _ _ _ _
    refine pm_e_sim pm_a0_370 rfl ?_
    show pm_E _ _ _ 371 [(0, .retAddr 0), (1, .ref 0), (2, .ref 18), (3, .int (iI i))] [] _ _ _ _
    refine pm_e_goto pm_a0_371 rfl ?_
    show pm_E _ _ _ 779 [(0, .retAddr 0), (1, .ref 0), (2, .ref 18), (3, .int (iI i))] [] _ _ _ _
    exact k _ _ _ _ _ _ _ _ _ _ _ _ ⟨N, T, hok, hc, hm, by omega, by omega⟩
set_option maxHeartbeats 4000000 in
set_option maxRecDepth 100000 in
theorem LM_apply_k {L : Nat} {xs : Nat → Int32} {t n nc ns : Nat} {kd pl : Nat → Nat} {s : Nat → Int} {a : Nat → Int → Int} {c : Nat → cdt} {s1 : Nat → Int} {v1 : Int64} {a1 : Nat → Int → Int} {nm : Nat → Int64} {N i : Int} {T : Int → List Int} {Q : Option Value → List va_E → Nat → Nat → Prop} (hi0 : 0 ≤ i) (hi6 : i + 6 ≤ L) (hL : L ≤ 3072) (hok : okT N T) (hc : cI n kd pl s a c (N + 1) (upT T N ([0] ++ T (xv xs i 1) ++ T (xv xs i 2)))) (hsh : sh s1 a1 N T) (e4 : s1 4 = s 4) (e0 : a1 3 = a 0) (hlt : N < 32) (x0 : 0 ≤ (xv xs i 1)) (x1 : (xv xs i 1) < N) (u0 : 0 ≤ (xv xs i 2)) (u1 : (xv xs i 2) < N) (hl : (T (xv xs i 1)).length + (T (xv xs i 2)).length + 1 ≤ 500) (m45 : 0 ≤ s1 45) (m45' : s1 45 ≤ 500) (mt : tld s s1) (hin1 : ∀ i j, in32 (a1 i j)) (hnc : nc ≤ 50 + 12 * (t + 1)) (hns : ns ≤ 194358 + 503 * (t + 1) + wt pl) (k : ∀ n' kd' pl' s' a' c' s1' v1' a1' nm' nc' ns', LI (t + 1) n' kd' pl' s' a' c' s1' a1' nc' ns' → pm_E (some (L, xs)) 11 pm_mm0 779 [(0, .retAddr 0), (1, .ref 0), (2, .ref 18), (3, .int (iI i))] [] (ch n' kd' pl' s' a' c' (mc s1' v1' a1' nm')) nc' ns' Q) : pm_E (some (L, xs)) 11 pm_mm0 356 [(0, .retAddr 0), (1, .ref 0), (2, .ref 18), (3, .int (iI i))] [] (ch n kd pl s a c (mc s1 v1 a1 nm)) nc ns Q := by
  obtain ⟨⟨hW, hn50, hq50⟩, hS, hf, ⟨h4, h4'⟩, hb, ⟨ho0, ho1⟩, ⟨h14, h14'⟩, hA, hY⟩ := id hc
  have hp0 : pl 0 = 0 := hW.2.2.2.2.2.2
  obtain ⟨hN0, hN32, hT⟩ := id hok
  have y1 := (hsh.2 _ x0 x1).1
  have y2 := (hsh.2 _ u0 u1).1
  refine pm_e_sim pm_a0_356 rfl ?_
  show pm_E _ _ _ 357 [(0, .retAddr 0), (1, .ref 0), (2, .ref 18), (3, .int (iI i))] [.ref 18] _ _ _ _
  refine pm_e_sim pm_a0_357 rfl ?_
  show pm_E _ _ _ 358 [(0, .retAddr 0), (1, .ref 0), (2, .ref 18), (3, .int (iI i))] [.retAddr 0, .ref 18] _ _ _ _
  refine pm_e_sim pm_a0_358 rfl ?_
  show pm_E _ _ _ 359 [(0, .retAddr 0), (1, .ref 0), (2, .ref 18), (3, .int (iI i))] [.int (iI i), .retAddr 0, .ref 18] _ _ _ _
  refine pm_e_sim pm_a0_359 rfl ?_
  refine pm_e_top (y := iI 1) (by decide +kernel) ?_
  show pm_E _ _ _ 360 [(0, .retAddr 0), (1, .ref 0), (2, .ref 18), (3, .int (iI i))] [.int (iI 1), .int (iI i), .retAddr 0, .ref 18] _ _ _ _
  refine pm_e_sim pm_a0_360 rfl ?_
  refine pm_e_top (y := iI (i + 1)) (iI_add _ _) ?_
  show pm_E _ _ _ 361 [(0, .retAddr 0), (1, .ref 0), (2, .ref 18), (3, .int (iI i))] [.int (iI (i + 1)), .retAddr 0, .ref 18] _ _ _ _
  refine pm_e_sld (j := (i + 1).toNat) pm_a0_361 (pm_ix_I (by omega) (by omega) ⟨by omega, by omega⟩) ?_
  refine pm_e_top (y := iI (xv xs i 1)) (iI_of _).symm ?_
  show pm_E _ _ _ 362 [(0, .retAddr 0), (1, .ref 0), (2, .ref 18), (3, .int (iI i))] [.int (iI (xv xs i 1)), .ref 18] _ _ _ _
  refine pm_e_sim pm_a0_362 rfl ?_
  show pm_E _ _ _ 363 [(0, .retAddr 0), (1, .ref 0), (2, .ref 18), (3, .int (iI i))] [.retAddr 0, .int (iI (xv xs i 1)), .ref 18] _ _ _ _
  refine pm_e_sim pm_a0_363 rfl ?_
  show pm_E _ _ _ 364 [(0, .retAddr 0), (1, .ref 0), (2, .ref 18), (3, .int (iI i))] [.int (iI i), .retAddr 0, .int (iI (xv xs i 1)), .ref 18] _ _ _ _
  refine pm_e_sim pm_a0_364 rfl ?_
  refine pm_e_top (y := iI 2) (by decide +kernel) ?_
  show pm_E _ _ _ 365 [(0, .retAddr 0), (1, .ref 0), (2, .ref 18), (3, .int (iI i))] [.int (iI 2), .int (iI i), .retAddr 0, .int (iI (xv xs i 1)), .ref 18] _ _ _ _
  refine pm_e_sim pm_a0_365 rfl ?_
  refine pm_e_top (y := iI (i + 2)) (iI_add _ _) ?_
  show pm_E _ _ _ 366 [(0, .retAddr 0), (1, .ref 0), (2, .ref 18), (3, .int (iI i))] [.int (iI (i + 2)), .retAddr 0, .int (iI (xv xs i 1)), .ref 18] _ _ _ _
  refine pm_e_sld (j := (i + 2).toNat) pm_a0_366 (pm_ix_I (by omega) (by omega) ⟨by omega, by omega⟩) ?_
  refine pm_e_top (y := iI (xv xs i 2)) (iI_of _).symm ?_
  show pm_E _ _ _ 367 [(0, .retAddr 0), (1, .ref 0), (2, .ref 18), (3, .int (iI i))] [.int (iI (xv xs i 2)), .int (iI (xv xs i 1)), .ref 18] _ _ _ _
  rw [ch_mh hW hn50 hq50]
  refine pm_i_callv (k := 18) (T2 := pm_mm174) pm_a0_367 rfl rfl rfl (mh_get (j := 0) kA18_len rfl) ⟨Nat.le_of_ble_eq_true rfl, Nat.le_of_ble_eq_true rfl, rfl, by decide +kernel⟩ ?_
  show pm_E none _ _ 0 [(0, .ref 18), (1, .int (iI (xv xs i 1))), (2, .int (iI (xv xs i 2)))] [] _ _ _ _
  refine M_apply kA18_len hin1 hok hsh xv_in xv_in (fun z => absurd z (by omega)) (fun z => absurd z.2.2.2.2 (by omega)) (fun _ _ _ s1' a1' f0 f4 f3 => ?_)
  · skip
    rw [← ch_mh hW hn50 hq50]
    show pm_E _ _ _ 370 [(0, .retAddr 0), (1, .ref 0), (2, .ref 18), (3, .int (iI i))] [.int (iI N)] _ _ _ _
    refine pm_e_sim pm_a0_370 rfl ?_
    show pm_E _ _ _ 371 [(0, .retAddr 0), (1, .ref 0), (2, .ref 18), (3, .int (iI i))] [] _ _ _ _
    refine pm_e_goto pm_a0_371 rfl ?_
    show pm_E _ _ _ 779 [(0, .retAddr 0), (1, .ref 0), (2, .ref 18), (3, .int (iI i))] [] _ _ _ _
    obtain ⟨_, F1, w1⟩ := hT _ x0 x1
    obtain ⟨_, F2, w2⟩ := hT _ u0 u1
    have w3 : tL (F1 + F2 + 1) 0 ([0] ++ T (xv xs i 1) ++ T (xv xs i 2)) := Or.inl ⟨T (xv xs i 1), T (xv xs i 2), rfl, tL_le (by omega) w1, tL_le (by omega) w2⟩
    exact k _ _ _ _ _ _ _ _ _ _ _ _ ⟨N + 1, _, okT_add hok hlt w3 (by simp; omega), hc, ⟨f0, f4.1.trans e4, f3.trans e0, by omega, by omega, tld_m mt f4.2.2.1 f4.2.2.2.1 f4.2.2.2.2⟩, by omega, by omega⟩
set_option maxHeartbeats 4000000 in
set_option maxRecDepth 100000 in
theorem LC_apply {L : Nat} {xs : Nat → Int32} {t n nc ns : Nat} {kd pl : Nat → Nat} {s : Nat → Int} {a : Nat → Int → Int} {c : Nat → cdt} {s1 : Nat → Int} {v1 : Int64} {a1 : Nat → Int → Int} {nm : Nat → Int64} {N i : Int} {T : Int → List Int} {Q : Option Value → List va_E → Nat → Nat → Prop} (hi0 : 0 ≤ i) (hi6 : i + 6 ≤ L) (hL : L ≤ 3072) (hok : okT N T) (hc : cI n kd pl s a c N T) (hm : mI s a s1 a1 N T) (hs : ∀ i, in32 (s i)) (hin : ∀ i j, in32 (a i j)) (hin1 : ∀ i j, in32 (a1 i j)) (hnc : nc ≤ 50 + 12 * t) (hns : ns ≤ 194358 + 503 * t + wt pl) (k : ∀ n' kd' pl' s' a' c' s1' v1' a1' nm' nc' ns', LI (t + 1) n' kd' pl' s' a' c' s1' a1' nc' ns' → pm_E (some (L, xs)) 11 pm_mm0 779 [(0, .retAddr 0), (1, .ref 0), (2, .ref 18), (3, .int (iI i))] [] (ch n' kd' pl' s' a' c' (mc s1' v1' a1' nm')) nc' ns' Q) : pm_E (some (L, xs)) 11 pm_mm0 341 [(0, .retAddr 0), (1, .ref 0), (2, .ref 18), (3, .int (iI i))] [] (ch n kd pl s a c (mc s1 v1 a1 nm)) nc ns Q := by
  obtain ⟨⟨hW, hn50, hq50⟩, hS, hf, ⟨h4, h4'⟩, hb, ⟨ho0, ho1⟩, ⟨h14, h14'⟩, hA, hY⟩ := id hc
  have hp0 : pl 0 = 0 := hW.2.2.2.2.2.2
  obtain ⟨hsh, m4, m3, m45, m45', mt⟩ := id hm
  obtain ⟨hN0, hN32, hT⟩ := id hok
  have s0 : s 0 = N := hS.1
  have m0 : s1 0 = N := hsh.1
  refine pm_e_sim pm_a0_341 rfl ?_
  show pm_E _ _ _ 342 [(0, .retAddr 0), (1, .ref 0), (2, .ref 18), (3, .int (iI i))] [.ref 0] _ _ _ _
  refine pm_e_sim pm_a0_342 rfl ?_
  show pm_E _ _ _ 343 [(0, .retAddr 0), (1, .ref 0), (2, .ref 18), (3, .int (iI i))] [.retAddr 0, .ref 0] _ _ _ _
  refine pm_e_sim pm_a0_343 rfl ?_
  show pm_E _ _ _ 344 [(0, .retAddr 0), (1, .ref 0), (2, .ref 18), (3, .int (iI i))] [.int (iI i), .retAddr 0, .ref 0] _ _ _ _
  refine pm_e_sim pm_a0_344 rfl ?_
  refine pm_e_top (y := iI 1) (by decide +kernel) ?_
  show pm_E _ _ _ 345 [(0, .retAddr 0), (1, .ref 0), (2, .ref 18), (3, .int (iI i))] [.int (iI 1), .int (iI i), .retAddr 0, .ref 0] _ _ _ _
  refine pm_e_sim pm_a0_345 rfl ?_
  refine pm_e_top (y := iI (i + 1)) (iI_add _ _) ?_
  show pm_E _ _ _ 346 [(0, .retAddr 0), (1, .ref 0), (2, .ref 18), (3, .int (iI i))] [.int (iI (i + 1)), .retAddr 0, .ref 0] _ _ _ _
  refine pm_e_sld (j := (i + 1).toNat) pm_a0_346 (pm_ix_I (by omega) (by omega) ⟨by omega, by omega⟩) ?_
  refine pm_e_top (y := iI (xv xs i 1)) (iI_of _).symm ?_
  show pm_E _ _ _ 347 [(0, .retAddr 0), (1, .ref 0), (2, .ref 18), (3, .int (iI i))] [.int (iI (xv xs i 1)), .ref 0] _ _ _ _
  refine pm_e_sim pm_a0_347 rfl ?_
  show pm_E _ _ _ 348 [(0, .retAddr 0), (1, .ref 0), (2, .ref 18), (3, .int (iI i))] [.retAddr 0, .int (iI (xv xs i 1)), .ref 0] _ _ _ _
  refine pm_e_sim pm_a0_348 rfl ?_
  show pm_E _ _ _ 349 [(0, .retAddr 0), (1, .ref 0), (2, .ref 18), (3, .int (iI i))] [.int (iI i), .retAddr 0, .int (iI (xv xs i 1)), .ref 0] _ _ _ _
  refine pm_e_sim pm_a0_349 rfl ?_
  refine pm_e_top (y := iI 2) (by decide +kernel) ?_
  show pm_E _ _ _ 350 [(0, .retAddr 0), (1, .ref 0), (2, .ref 18), (3, .int (iI i))] [.int (iI 2), .int (iI i), .retAddr 0, .int (iI (xv xs i 1)), .ref 0] _ _ _ _
  refine pm_e_sim pm_a0_350 rfl ?_
  refine pm_e_top (y := iI (i + 2)) (iI_add _ _) ?_
  show pm_E _ _ _ 351 [(0, .retAddr 0), (1, .ref 0), (2, .ref 18), (3, .int (iI i))] [.int (iI (i + 2)), .retAddr 0, .int (iI (xv xs i 1)), .ref 0] _ _ _ _
  refine pm_e_sld (j := (i + 2).toNat) pm_a0_351 (pm_ix_I (by omega) (by omega) ⟨by omega, by omega⟩) ?_
  refine pm_e_top (y := iI (xv xs i 2)) (iI_of _).symm ?_
  show pm_E _ _ _ 352 [(0, .retAddr 0), (1, .ref 0), (2, .ref 18), (3, .int (iI i))] [.int (iI (xv xs i 2)), .int (iI (xv xs i 1)), .ref 0] _ _ _ _
  refine pm_i_callv (k := 0) (T2 := pm_mm57) pm_a0_352 rfl rfl rfl (cg0 hW) ⟨Nat.le_of_ble_eq_true rfl, Nat.le_of_ble_eq_true rfl, rfl, by decide +kernel⟩ ?_
  show pm_E none _ _ 0 ((0, .ref 0) :: [(1, .int (iI (xv xs i 1))), (2, .int (iI (xv xs i 2)))]) [] _ _ _ _
  refine pm_e_lv0 hp0 ?_
  refine C_apply hW hS hT xv_in xv_in (fun z => hf (s 0).toNat (by omega) (by omega)) (fun z => ?_) (fun _ _ _ _ z => ?_) (fun x0 x1 u0 u1 hlt n' kd' pl' y nc' ns' hg z1 z2 z3 z4 z5 => ?_) (fun x0 x1 u0 u1 hlt n' kd' pl' y nc' ns' hg z1 z2 z3 z4 z5 => ?_)
  · skip
    show pm_E _ _ _ 355 [(0, .retAddr 0), (1, .ref 0), (2, .ref 18), (3, .int (iI i))] [.int (iI (-1))] _ _ _ _
    refine pm_e_sim pm_a0_355 rfl ?_
    show pm_E _ _ _ 356 [(0, .retAddr 0), (1, .ref 0), (2, .ref 18), (3, .int (iI i))] [] _ _ _ _
    exact LM_apply_b hi0 hi6 hL hok hc hm hin1 (by omega) (by omega) (by omega) k
  · skip
    show pm_E _ _ _ 355 [(0, .retAddr 0), (1, .ref 0), (2, .ref 18), (3, .int (iI i))] [.int (iI (-3))] _ _ _ _
    refine pm_e_sim pm_a0_355 rfl ?_
    show pm_E _ _ _ 356 [(0, .retAddr 0), (1, .ref 0), (2, .ref 18), (3, .int (iI i))] [] _ _ _ _
    exact LM_apply_b hi0 hi6 hL hok hc hm hin1 (by omega) (by omega) (by omega) k
  · skip
    show pm_E _ _ _ 355 [(0, .retAddr 0), (1, .ref 0), (2, .ref 18), (3, .int (iI i))] [.int (iI (s 0))] _ _ _ _
    refine pm_e_sim pm_a0_355 rfl ?_
    show pm_E _ _ _ 356 [(0, .retAddr 0), (1, .ref 0), (2, .ref 18), (3, .int (iI i))] [] _ _ _ _
    have hC := cI_add (s' := updS s 0 (s 0 + 1)) (a' := a) (c' := c) hc hg.1 hlt z3 z4 rfl ⟨h4, h4'⟩ ⟨h14, h14'⟩ hb (fun i h2 h3 hj => rfl) (h23_x hc hg ⟨by omega, by omega⟩ rfl rfl) (fun k _ h2 h3 => hg.2 k h2 h3)
    have hl : (T (xv xs i 1)).length + (T (xv xs i 2)).length + 1 ≤ 500 := by
      have e9 : rm (6 + (s 0).toNat) = 500 := if_neg (by omega)
      rcases z4.2 with ⟨w, _⟩ | ⟨_, w⟩
      · rw [e9] at w; simp at w; omega
      · omega
    exact LM_apply_k hi0 hi6 hL hok hC hsh m4 m3 (by omega) x0 x1 u0 u1 hl m45 m45' (tld_c mt rfl rfl rfl) hin1 (by omega) (by have := wt_le hg.1 hW; omega) k
  · skip
    show pm_E _ _ _ 355 [(0, .retAddr 0), (1, .ref 0), (2, .ref 18), (3, .int (iI i))] [.int (iI (-3))] _ _ _ _
    refine pm_e_sim pm_a0_355 rfl ?_
    show pm_E _ _ _ 356 [(0, .retAddr 0), (1, .ref 0), (2, .ref 18), (3, .int (iI i))] [] _ _ _ _
    have hC := cI_use (s' := s) (a' := a) (c' := c) hc hg.1 hlt z3 z4.1 rfl ⟨h4, h4'⟩ ⟨h14, h14'⟩ hb (fun i h2 h3 hj => rfl) (h23_x hc hg ⟨by omega, by omega⟩ rfl rfl) (fun k _ h2 h3 => hg.2 k h2 h3)
    have hl : 500 < (T (xv xs i 1)).length + (T (xv xs i 2)).length + 1 := by
      have e9 : rm (6 + (s 0).toNat) = 500 := if_neg (by omega)
      rcases z4.2 with ⟨_, w, _⟩ | ⟨w, _⟩
      · omega
      · rw [e9] at w; simp at w; omega
    exact LM_apply_b hi0 hi6 hL hok hC hm hin1 (by omega) (by have := wt_le hg.1 hW; omega) (by omega) k
