/-! THE LAW: the class's half where the terms stay -/
section LAW
variable {n n' : Nat} {kd pl kd' pl' : Nat → Nat} {s s' : Nat → Int} {a a' : Nat → Int → Int} {c c' : Nat → cdt} {N : Int} {T : Int → List Int}
theorem cI_c01 (h : cI n kd pl s a c N T) (hr : ∀ i, i ≠ 0 → i ≠ 1 → c' i = c i) (o0 : okx (rm 0) (c' 0)) (o1 : okx (rm 1) (c' 1)) : cI n kd pl s a c' N T := by
  obtain ⟨g1, ⟨q1, q2, q3, q4⟩, g3, g4, g5, g6, g7, g8, g9⟩ := h
  refine ⟨g1, ⟨q1, q2, q3, fun t t0 t1 => ?_⟩, fun i i0 i1 => ?_, g4, g5, ⟨o0, o1⟩, g7, ?_, ?_⟩
  · rw [hr _ (by omega) (by omega)]; exact q4 t t0 t1
  · rw [hr _ (by omega) (by omega)]; exact g3 i i0 i1
  · rw [hr 2 (by decide) (by decide), hr 3 (by decide) (by decide)]; exact g8
  · rw [hr 4 (by decide) (by decide), hr 5 (by decide) (by decide)]; exact g9
theorem cI_Y (h : cI n kd pl s a c N T) (hg : grw n kd pl n' kd' pl') (hr : ∀ k, k ∉ KY → pl' k = pl k) (hG : tyG s a c s' a' c') (h203 : al n' kd' pl' 203) : cI n' kd' pl' s' a' c' N T := by
  obtain ⟨g1, ⟨q1, q2, q3, q4⟩, g3, g4, g5, g6, g7, g8, g9⟩ := h
  obtain ⟨t1, t2, t3, t4, t5⟩ := hG
  have hKY : ∀ i : Nat, i < 38 → 6 ≤ i → 60 + 2 * i ∉ KY ∧ 61 + 2 * i ∉ KY := fun i h1 h2 => by
    constructor <;> (simp only [KY, List.mem_cons, List.not_mem_nil, or_false]; omega)
  refine ⟨mid_grw hg g1, ⟨(t1 0 (by omega)).trans q1, q2, q3, fun t t0 t1 => ?_⟩, fun i i0 i1 => ?_, by rw [t1 4 (by omega)]; exact g4, by rw [t2 0 (by omega) (by decide) (by decide)]; exact g5, ⟨by rw [t3 0 (by decide) (by decide)]; exact g6.1, by rw [t3 1 (by decide) (by decide)]; exact g6.2⟩, by rw [t1 14 (by omega)]; exact g7, ?_, Or.inr ⟨h203, t4, t5⟩⟩
  · obtain ⟨z1, z2⟩ := q4 t t0 t1
    rw [t3 _ (by omega) (by omega)]
    exact ⟨(hg.2.2 _ z1).1, z2⟩
  · rcases g3 i i0 i1 with ⟨z1, z2⟩ | ⟨z1, z2⟩
    · exact Or.inl ⟨(hg.2.2 _ z1).1, by rw [t3 _ (by omega) (by omega)]; exact z2⟩
    · obtain ⟨k1, k2⟩ := hKY (6 + i) (by omega) (by omega)
      exact Or.inr ⟨by rw [hr _ k1]; exact z1, by rw [hr _ k2]; exact z2⟩
  · rcases g8 with z | ⟨z1, z2, z3⟩
    · refine Or.inl (fun k hk => ?_)
      have hk' := hk
      simp only [KA, List.mem_cons, List.not_mem_nil, or_false] at hk'
      rw [hr k (by simp only [KY, List.mem_cons, List.not_mem_nil, or_false]; omega)]
      exact z k hk
    · exact Or.inr ⟨(hg.2.2 _ z1).1, by rw [t3 2 (by decide) (by decide)]; exact z2, by rw [t3 3 (by decide) (by decide)]; exact z3⟩
end LAW
theorem mB_b {x k : Int} : 0 ≤ mB x k ∧ mB x k ≤ 255 := by
  obtain ⟨j, hj, e⟩ := pk_andE (iI x >>> (iI k &&& 31)) (m := 255) 8 (by decide +kernel)
  unfold mB
  have e2 : (iI 255 : Int32) = 255 := by decide +kernel
  rw [e2, e]
  have e3 : (nI j).toInt = (j : Int) := by
    have e4 : nI j = iI (j : Int) := iI_nat
    rw [e4]
    exact iI_t ⟨by omega, by omega⟩
  rw [e3]
  omega
theorem upd_b {g : Int → Int} {m v : Int} (h : ∀ j, 0 ≤ g j ∧ g j ≤ 255) (hv : 0 ≤ v ∧ v ≤ 255) (j : Int) : 0 ≤ updI g m v j ∧ updI g m v j ≤ 255 := by
  unfold updI
  split
  · exact hv
  · exact h j
theorem mP_b {g : Int → Int} {m x : Int} (h : ∀ j, 0 ≤ g j ∧ g j ≤ 255) : ∀ j, 0 ≤ mP g m x j ∧ mP g m x j ≤ 255 := upd_b (upd_b (upd_b (upd_b h mB_b) mB_b) mB_b) mB_b
theorem mP5_b {g : Int → Int} {m x1 x2 x3 x4 x5 : Int} (h : ∀ j, 0 ≤ g j ∧ g j ≤ 255) : ∀ j, 0 ≤ mP5 g m x1 x2 x3 x4 x5 j ∧ mP5 g m x1 x2 x3 x4 x5 j ≤ 255 := mP_b (mP_b (mP_b (mP_b (mP_b h))))
set_option maxHeartbeats 4000000 in
set_option maxRecDepth 100000 in
theorem LC_fault {L : Nat} {xs : Nat → Int32} {t n nc ns : Nat} {kd pl : Nat → Nat} {s : Nat → Int} {a : Nat → Int → Int} {c : Nat → cdt} {s1 : Nat → Int} {v1 : Int64} {a1 : Nat → Int → Int} {nm : Nat → Int64} {N i : Int} {T : Int → List Int} {Q : Option Value → List va_E → Nat → Nat → Prop} (hi0 : 0 ≤ i) (hi6 : i + 6 ≤ L) (hL : L ≤ 3072) (hok : okT N T) (hc : cI n kd pl s a c N T) (hm : mI s a s1 a1 N T) (hs : ∀ i, in32 (s i)) (hin : ∀ i j, in32 (a i j)) (hin1 : ∀ i j, in32 (a1 i j)) (hnc : nc ≤ 50 + 12 * t) (hns : ns ≤ 194358 + 503 * t + wt pl) (k : ∀ n' kd' pl' s' a' c' s1' v1' a1' nm' nc' ns', LI (t + 1) n' kd' pl' s' a' c' s1' a1' nc' ns' → pm_E (some (L, xs)) 11 pm_mm0 779 [(0, .retAddr 0), (1, .ref 0), (2, .ref 18), (3, .int (iI i))] [] (ch n' kd' pl' s' a' c' (mc s1' v1' a1' nm')) nc' ns' Q) : pm_E (some (L, xs)) 11 pm_mm0 239 [(0, .retAddr 0), (1, .ref 0), (2, .ref 18), (3, .int (iI i))] [] (ch n kd pl s a c (mc s1 v1 a1 nm)) nc ns Q := by
  obtain ⟨⟨hW, hn50, hq50⟩, hS, hf, ⟨h4, h4'⟩, hb, ⟨ho0, ho1⟩, ⟨h14, h14'⟩, hA, hY⟩ := id hc
  have hp0 : pl 0 = 0 := hW.2.2.2.2.2.2
  obtain ⟨hsh, m4, m3, m45, m45', mt⟩ := id hm
  obtain ⟨hN0, hN32, hT⟩ := id hok
  have s0 : s 0 = N := hS.1
  have m0 : s1 0 = N := hsh.1
  refine pm_e_sim pm_a0_239 rfl ?_
  show pm_E _ _ _ 240 [(0, .retAddr 0), (1, .ref 0), (2, .ref 18), (3, .int (iI i))] [.ref 0] _ _ _ _
  refine pm_i_callv (k := 0) (T2 := pm_mm43) pm_a0_240 rfl rfl rfl (cg0 hW) ⟨Nat.le_of_ble_eq_true rfl, Nat.le_of_ble_eq_true rfl, rfl, by decide +kernel⟩ ?_
  show pm_E none _ _ 0 ((0, .ref 0) :: []) [] _ _ _ _
  refine pm_e_lv0 hp0 ?_
  refine C_fault hW ?_
  · skip
    show pm_E _ _ _ 243 [(0, .retAddr 0), (1, .ref 0), (2, .ref 18), (3, .int (iI i))] [.int (iI (s 1))] _ _ _ _
    exact LM_fault hi0 hi6 hL hok hc hm hin1 (by omega) (by omega) rfl k
set_option maxHeartbeats 4000000 in
set_option maxRecDepth 100000 in
theorem LC_size {L : Nat} {xs : Nat → Int32} {t n nc ns : Nat} {kd pl : Nat → Nat} {s : Nat → Int} {a : Nat → Int → Int} {c : Nat → cdt} {s1 : Nat → Int} {v1 : Int64} {a1 : Nat → Int → Int} {nm : Nat → Int64} {N i : Int} {T : Int → List Int} {Q : Option Value → List va_E → Nat → Nat → Prop} (hi0 : 0 ≤ i) (hi6 : i + 6 ≤ L) (hL : L ≤ 3072) (hok : okT N T) (hc : cI n kd pl s a c N T) (hm : mI s a s1 a1 N T) (hs : ∀ i, in32 (s i)) (hin : ∀ i j, in32 (a i j)) (hin1 : ∀ i j, in32 (a1 i j)) (hnc : nc ≤ 50 + 12 * t) (hns : ns ≤ 194358 + 503 * t + wt pl) (k : ∀ n' kd' pl' s' a' c' s1' v1' a1' nm' nc' ns', LI (t + 1) n' kd' pl' s' a' c' s1' a1' nc' ns' → pm_E (some (L, xs)) 11 pm_mm0 779 [(0, .retAddr 0), (1, .ref 0), (2, .ref 18), (3, .int (iI i))] [] (ch n' kd' pl' s' a' c' (mc s1' v1' a1' nm')) nc' ns' Q) : pm_E (some (L, xs)) 11 pm_mm0 252 [(0, .retAddr 0), (1, .ref 0), (2, .ref 18), (3, .int (iI i))] [] (ch n kd pl s a c (mc s1 v1 a1 nm)) nc ns Q := by
  obtain ⟨⟨hW, hn50, hq50⟩, hS, hf, ⟨h4, h4'⟩, hb, ⟨ho0, ho1⟩, ⟨h14, h14'⟩, hA, hY⟩ := id hc
  have hp0 : pl 0 = 0 := hW.2.2.2.2.2.2
  obtain ⟨hsh, m4, m3, m45, m45', mt⟩ := id hm
  obtain ⟨hN0, hN32, hT⟩ := id hok
  have s0 : s 0 = N := hS.1
  have m0 : s1 0 = N := hsh.1
  refine pm_e_sim pm_a0_252 rfl ?_
  show pm_E _ _ _ 253 [(0, .retAddr 0), (1, .ref 0), (2, .ref 18), (3, .int (iI i))] [.ref 0] _ _ _ _
  refine pm_e_sim pm_a0_253 rfl ?_
  show pm_E _ _ _ 254 [(0, .retAddr 0), (1, .ref 0), (2, .ref 18), (3, .int (iI i))] [.retAddr 0, .ref 0] _ _ _ _
  refine pm_e_sim pm_a0_254 rfl ?_
  show pm_E _ _ _ 255 [(0, .retAddr 0), (1, .ref 0), (2, .ref 18), (3, .int (iI i))] [.int (iI i), .retAddr 0, .ref 0] _ _ _ _
  refine pm_e_sim pm_a0_255 rfl ?_
  refine pm_e_top (y := iI 1) (by decide +kernel) ?_
  show pm_E _ _ _ 256 [(0, .retAddr 0), (1, .ref 0), (2, .ref 18), (3, .int (iI i))] [.int (iI 1), .int (iI i), .retAddr 0, .ref 0] _ _ _ _
  refine pm_e_sim pm_a0_256 rfl ?_
  refine pm_e_top (y := iI (i + 1)) (iI_add _ _) ?_
  show pm_E _ _ _ 257 [(0, .retAddr 0), (1, .ref 0), (2, .ref 18), (3, .int (iI i))] [.int (iI (i + 1)), .retAddr 0, .ref 0] _ _ _ _
  refine pm_e_sld (j := (i + 1).toNat) pm_a0_257 (pm_ix_I (by omega) (by omega) ⟨by omega, by omega⟩) ?_
  refine pm_e_top (y := iI (xv xs i 1)) (iI_of _).symm ?_
  show pm_E _ _ _ 258 [(0, .retAddr 0), (1, .ref 0), (2, .ref 18), (3, .int (iI i))] [.int (iI (xv xs i 1)), .ref 0] _ _ _ _
  refine pm_i_callv (k := 0) (T2 := pm_mm44) pm_a0_258 rfl rfl rfl (cg0 hW) ⟨Nat.le_of_ble_eq_true rfl, Nat.le_of_ble_eq_true rfl, rfl, by decide +kernel⟩ ?_
  show pm_E none _ _ 0 ((0, .ref 0) :: [(1, .int (iI (xv xs i 1)))]) [] _ _ _ _
  refine pm_e_lv0 hp0 ?_
  refine C_size hW hS hT xv_in (fun _ => ?_) (fun _ _ => ?_)
  · skip
    show pm_E _ _ _ 261 [(0, .retAddr 0), (1, .ref 0), (2, .ref 18), (3, .int (iI i))] [.int (iI (-1))] _ _ _ _
    refine pm_e_sim pm_a0_261 rfl ?_
    show pm_E _ _ _ 262 [(0, .retAddr 0), (1, .ref 0), (2, .ref 18), (3, .int (iI i))] [] _ _ _ _
    exact LM_size hi0 hi6 hL hok hc hm hin1 (by omega) (by omega) k
  · skip
    show pm_E _ _ _ 261 [(0, .retAddr 0), (1, .ref 0), (2, .ref 18), (3, .int (iI i))] [.int (iI ((T (xv xs i 1)).length))] _ _ _ _
    refine pm_e_sim pm_a0_261 rfl ?_
    show pm_E _ _ _ 262 [(0, .retAddr 0), (1, .ref 0), (2, .ref 18), (3, .int (iI i))] [] _ _ _ _
    exact LM_size hi0 hi6 hL hok hc hm hin1 (by omega) (by omega) k
set_option maxHeartbeats 4000000 in
set_option maxRecDepth 100000 in
theorem LC_code {L : Nat} {xs : Nat → Int32} {t n nc ns : Nat} {kd pl : Nat → Nat} {s : Nat → Int} {a : Nat → Int → Int} {c : Nat → cdt} {s1 : Nat → Int} {v1 : Int64} {a1 : Nat → Int → Int} {nm : Nat → Int64} {N i : Int} {T : Int → List Int} {Q : Option Value → List va_E → Nat → Nat → Prop} (hi0 : 0 ≤ i) (hi6 : i + 6 ≤ L) (hL : L ≤ 3072) (hok : okT N T) (hc : cI n kd pl s a c N T) (hm : mI s a s1 a1 N T) (hs : ∀ i, in32 (s i)) (hin : ∀ i j, in32 (a i j)) (hin1 : ∀ i j, in32 (a1 i j)) (hnc : nc ≤ 50 + 12 * t) (hns : ns ≤ 194358 + 503 * t + wt pl) (k : ∀ n' kd' pl' s' a' c' s1' v1' a1' nm' nc' ns', LI (t + 1) n' kd' pl' s' a' c' s1' a1' nc' ns' → pm_E (some (L, xs)) 11 pm_mm0 779 [(0, .retAddr 0), (1, .ref 0), (2, .ref 18), (3, .int (iI i))] [] (ch n' kd' pl' s' a' c' (mc s1' v1' a1' nm')) nc' ns' Q) : pm_E (some (L, xs)) 11 pm_mm0 275 [(0, .retAddr 0), (1, .ref 0), (2, .ref 18), (3, .int (iI i))] [] (ch n kd pl s a c (mc s1 v1 a1 nm)) nc ns Q := by
  obtain ⟨⟨hW, hn50, hq50⟩, hS, hf, ⟨h4, h4'⟩, hb, ⟨ho0, ho1⟩, ⟨h14, h14'⟩, hA, hY⟩ := id hc
  have hp0 : pl 0 = 0 := hW.2.2.2.2.2.2
  obtain ⟨hsh, m4, m3, m45, m45', mt⟩ := id hm
  obtain ⟨hN0, hN32, hT⟩ := id hok
  have s0 : s 0 = N := hS.1
  have m0 : s1 0 = N := hsh.1
  refine pm_e_sim pm_a0_275 rfl ?_
  show pm_E _ _ _ 276 [(0, .retAddr 0), (1, .ref 0), (2, .ref 18), (3, .int (iI i))] [.ref 0] _ _ _ _
  refine pm_e_sim pm_a0_276 rfl ?_
  show pm_E _ _ _ 277 [(0, .retAddr 0), (1, .ref 0), (2, .ref 18), (3, .int (iI i))] [.retAddr 0, .ref 0] _ _ _ _
  refine pm_e_sim pm_a0_277 rfl ?_
  show pm_E _ _ _ 278 [(0, .retAddr 0), (1, .ref 0), (2, .ref 18), (3, .int (iI i))] [.int (iI i), .retAddr 0, .ref 0] _ _ _ _
  refine pm_e_sim pm_a0_278 rfl ?_
  refine pm_e_top (y := iI 1) (by decide +kernel) ?_
  show pm_E _ _ _ 279 [(0, .retAddr 0), (1, .ref 0), (2, .ref 18), (3, .int (iI i))] [.int (iI 1), .int (iI i), .retAddr 0, .ref 0] _ _ _ _
  refine pm_e_sim pm_a0_279 rfl ?_
  refine pm_e_top (y := iI (i + 1)) (iI_add _ _) ?_
  show pm_E _ _ _ 280 [(0, .retAddr 0), (1, .ref 0), (2, .ref 18), (3, .int (iI i))] [.int (iI (i + 1)), .retAddr 0, .ref 0] _ _ _ _
  refine pm_e_sld (j := (i + 1).toNat) pm_a0_280 (pm_ix_I (by omega) (by omega) ⟨by omega, by omega⟩) ?_
  refine pm_e_top (y := iI (xv xs i 1)) (iI_of _).symm ?_
  show pm_E _ _ _ 281 [(0, .retAddr 0), (1, .ref 0), (2, .ref 18), (3, .int (iI i))] [.int (iI (xv xs i 1)), .ref 0] _ _ _ _
  refine pm_e_sim pm_a0_281 rfl ?_
  show pm_E _ _ _ 282 [(0, .retAddr 0), (1, .ref 0), (2, .ref 18), (3, .int (iI i))] [.retAddr 0, .int (iI (xv xs i 1)), .ref 0] _ _ _ _
  refine pm_e_sim pm_a0_282 rfl ?_
  show pm_E _ _ _ 283 [(0, .retAddr 0), (1, .ref 0), (2, .ref 18), (3, .int (iI i))] [.int (iI i), .retAddr 0, .int (iI (xv xs i 1)), .ref 0] _ _ _ _
  refine pm_e_sim pm_a0_283 rfl ?_
  refine pm_e_top (y := iI 2) (by decide +kernel) ?_
  show pm_E _ _ _ 284 [(0, .retAddr 0), (1, .ref 0), (2, .ref 18), (3, .int (iI i))] [.int (iI 2), .int (iI i), .retAddr 0, .int (iI (xv xs i 1)), .ref 0] _ _ _ _
  refine pm_e_sim pm_a0_284 rfl ?_
  refine pm_e_top (y := iI (i + 2)) (iI_add _ _) ?_
  show pm_E _ _ _ 285 [(0, .retAddr 0), (1, .ref 0), (2, .ref 18), (3, .int (iI i))] [.int (iI (i + 2)), .retAddr 0, .int (iI (xv xs i 1)), .ref 0] _ _ _ _
  refine pm_e_sld (j := (i + 2).toNat) pm_a0_285 (pm_ix_I (by omega) (by omega) ⟨by omega, by omega⟩) ?_
  refine pm_e_top (y := iI (xv xs i 2)) (iI_of _).symm ?_
  show pm_E _ _ _ 286 [(0, .retAddr 0), (1, .ref 0), (2, .ref 18), (3, .int (iI i))] [.int (iI (xv xs i 2)), .int (iI (xv xs i 1)), .ref 0] _ _ _ _
  refine pm_i_callv (k := 0) (T2 := pm_mm46) pm_a0_286 rfl rfl rfl (cg0 hW) ⟨Nat.le_of_ble_eq_true rfl, Nat.le_of_ble_eq_true rfl, rfl, by decide +kernel⟩ ?_
  show pm_E none _ _ 0 ((0, .ref 0) :: [(1, .int (iI (xv xs i 1))), (2, .int (iI (xv xs i 2)))]) [] _ _ _ _
  refine pm_e_lv0 hp0 ?_
  refine C_code hW hS hT xv_in xv_in (fun _ => ?_) (fun _ _ r q1 q2 => ?_)
  · skip
    show pm_E _ _ _ 289 [(0, .retAddr 0), (1, .ref 0), (2, .ref 18), (3, .int (iI i))] [.int (iI (-1))] _ _ _ _
    refine pm_e_sim pm_a0_289 rfl ?_
    show pm_E _ _ _ 290 [(0, .retAddr 0), (1, .ref 0), (2, .ref 18), (3, .int (iI i))] [] _ _ _ _
    exact LM_code hi0 hi6 hL hok hc hm hin1 (by omega) (by omega) k
  · skip
    show pm_E _ _ _ 289 [(0, .retAddr 0), (1, .ref 0), (2, .ref 18), (3, .int (iI i))] [.int (iI r)] _ _ _ _
    refine pm_e_sim pm_a0_289 rfl ?_
    show pm_E _ _ _ 290 [(0, .retAddr 0), (1, .ref 0), (2, .ref 18), (3, .int (iI i))] [] _ _ _ _
    exact LM_code hi0 hi6 hL hok hc hm hin1 (by omega) (by omega) k
set_option maxHeartbeats 4000000 in
set_option maxRecDepth 100000 in
theorem LC_letter {L : Nat} {xs : Nat → Int32} {t n nc ns : Nat} {kd pl : Nat → Nat} {s : Nat → Int} {a : Nat → Int → Int} {c : Nat → cdt} {s1 : Nat → Int} {v1 : Int64} {a1 : Nat → Int → Int} {nm : Nat → Int64} {N i : Int} {T : Int → List Int} {Q : Option Value → List va_E → Nat → Nat → Prop} (hi0 : 0 ≤ i) (hi6 : i + 6 ≤ L) (hL : L ≤ 3072) (hok : okT N T) (hc : cI n kd pl s a c N T) (hm : mI s a s1 a1 N T) (hs : ∀ i, in32 (s i)) (hin : ∀ i j, in32 (a i j)) (hin1 : ∀ i j, in32 (a1 i j)) (hnc : nc ≤ 50 + 12 * t) (hns : ns ≤ 194358 + 503 * t + wt pl) (k : ∀ n' kd' pl' s' a' c' s1' v1' a1' nm' nc' ns', LI (t + 1) n' kd' pl' s' a' c' s1' a1' nc' ns' → pm_E (some (L, xs)) 11 pm_mm0 779 [(0, .retAddr 0), (1, .ref 0), (2, .ref 18), (3, .int (iI i))] [] (ch n' kd' pl' s' a' c' (mc s1' v1' a1' nm')) nc' ns' Q) : pm_E (some (L, xs)) 11 pm_mm0 308 [(0, .retAddr 0), (1, .ref 0), (2, .ref 18), (3, .int (iI i))] [] (ch n kd pl s a c (mc s1 v1 a1 nm)) nc ns Q := by
  obtain ⟨⟨hW, hn50, hq50⟩, hS, hf, ⟨h4, h4'⟩, hb, ⟨ho0, ho1⟩, ⟨h14, h14'⟩, hA, hY⟩ := id hc
  have hp0 : pl 0 = 0 := hW.2.2.2.2.2.2
  obtain ⟨hsh, m4, m3, m45, m45', mt⟩ := id hm
  obtain ⟨hN0, hN32, hT⟩ := id hok
  have s0 : s 0 = N := hS.1
  have m0 : s1 0 = N := hsh.1
  refine pm_e_sim pm_a0_308 rfl ?_
  show pm_E _ _ _ 309 [(0, .retAddr 0), (1, .ref 0), (2, .ref 18), (3, .int (iI i))] [.ref 0] _ _ _ _
  refine pm_e_sim pm_a0_309 rfl ?_
  show pm_E _ _ _ 310 [(0, .retAddr 0), (1, .ref 0), (2, .ref 18), (3, .int (iI i))] [.retAddr 0, .ref 0] _ _ _ _
  refine pm_e_sim pm_a0_310 rfl ?_
  show pm_E _ _ _ 311 [(0, .retAddr 0), (1, .ref 0), (2, .ref 18), (3, .int (iI i))] [.int (iI i), .retAddr 0, .ref 0] _ _ _ _
  refine pm_e_sim pm_a0_311 rfl ?_
  refine pm_e_top (y := iI 1) (by decide +kernel) ?_
  show pm_E _ _ _ 312 [(0, .retAddr 0), (1, .ref 0), (2, .ref 18), (3, .int (iI i))] [.int (iI 1), .int (iI i), .retAddr 0, .ref 0] _ _ _ _
  refine pm_e_sim pm_a0_312 rfl ?_
  refine pm_e_top (y := iI (i + 1)) (iI_add _ _) ?_
  show pm_E _ _ _ 313 [(0, .retAddr 0), (1, .ref 0), (2, .ref 18), (3, .int (iI i))] [.int (iI (i + 1)), .retAddr 0, .ref 0] _ _ _ _
  refine pm_e_sld (j := (i + 1).toNat) pm_a0_313 (pm_ix_I (by omega) (by omega) ⟨by omega, by omega⟩) ?_
  refine pm_e_top (y := iI (xv xs i 1)) (iI_of _).symm ?_
  show pm_E _ _ _ 314 [(0, .retAddr 0), (1, .ref 0), (2, .ref 18), (3, .int (iI i))] [.int (iI (xv xs i 1)), .ref 0] _ _ _ _
  refine pm_e_sim pm_a0_314 rfl ?_
  show pm_E _ _ _ 315 [(0, .retAddr 0), (1, .ref 0), (2, .ref 18), (3, .int (iI i))] [.retAddr 0, .int (iI (xv xs i 1)), .ref 0] _ _ _ _
  refine pm_e_sim pm_a0_315 rfl ?_
  show pm_E _ _ _ 316 [(0, .retAddr 0), (1, .ref 0), (2, .ref 18), (3, .int (iI i))] [.int (iI i), .retAddr 0, .int (iI (xv xs i 1)), .ref 0] _ _ _ _
  refine pm_e_sim pm_a0_316 rfl ?_
  refine pm_e_top (y := iI 2) (by decide +kernel) ?_
  show pm_E _ _ _ 317 [(0, .retAddr 0), (1, .ref 0), (2, .ref 18), (3, .int (iI i))] [.int (iI 2), .int (iI i), .retAddr 0, .int (iI (xv xs i 1)), .ref 0] _ _ _ _
  refine pm_e_sim pm_a0_317 rfl ?_
  refine pm_e_top (y := iI (i + 2)) (iI_add _ _) ?_
  show pm_E _ _ _ 318 [(0, .retAddr 0), (1, .ref 0), (2, .ref 18), (3, .int (iI i))] [.int (iI (i + 2)), .retAddr 0, .int (iI (xv xs i 1)), .ref 0] _ _ _ _
  refine pm_e_sld (j := (i + 2).toNat) pm_a0_318 (pm_ix_I (by omega) (by omega) ⟨by omega, by omega⟩) ?_
  refine pm_e_top (y := iI (xv xs i 2)) (iI_of _).symm ?_
  show pm_E _ _ _ 319 [(0, .retAddr 0), (1, .ref 0), (2, .ref 18), (3, .int (iI i))] [.int (iI (xv xs i 2)), .int (iI (xv xs i 1)), .ref 0] _ _ _ _
  refine pm_i_callv (k := 0) (T2 := pm_mm48) pm_a0_319 rfl rfl rfl (cg0 hW) ⟨Nat.le_of_ble_eq_true rfl, Nat.le_of_ble_eq_true rfl, rfl, by decide +kernel⟩ ?_
  show pm_E none _ _ 0 ((0, .ref 0) :: [(1, .int (iI (xv xs i 1))), (2, .int (iI (xv xs i 2)))]) [] _ _ _ _
  refine pm_e_lv0 hp0 ?_
  refine C_letter hW hS hT xv_in xv_in ⟨⟨h14, h14'⟩, hs 15, hs 16, hs 17, hs 18⟩ (fun _ => ?_) (fun s' a' r f => ?_)
  · skip
    show pm_E _ _ _ 322 [(0, .retAddr 0), (1, .ref 0), (2, .ref 18), (3, .int (iI i))] [.int (iI (-1))] _ _ _ _
    refine pm_e_sim pm_a0_322 rfl ?_
    show pm_E _ _ _ 323 [(0, .retAddr 0), (1, .ref 0), (2, .ref 18), (3, .int (iI i))] [] _ _ _ _
    exact LM_letter hi0 hi6 hL hok hc hm hin1 (by omega) (by omega) k
  · skip
    show pm_E _ _ _ 322 [(0, .retAddr 0), (1, .ref 0), (2, .ref 18), (3, .int (iI i))] [.int (iI r)] _ _ _ _
    refine pm_e_sim pm_a0_322 rfl ?_
    show pm_E _ _ _ 323 [(0, .retAddr 0), (1, .ref 0), (2, .ref 18), (3, .int (iI i))] [] _ _ _ _
    exact LM_letter hi0 hi6 hL hok (cI_s hc (f.1 0 (by omega)) (by rw [f.1 4 (by omega)]; exact ⟨h4, h4'⟩) f.2.2.1 (by rw [f.2.1 0 (by decide)]; exact hb)) ⟨hsh, m4.trans (f.1 4 (by omega)).symm, m3.trans (f.2.1 0 (by decide)).symm, m45, m45', tld_c mt (f.1 2 (by omega)) (f.1 3 (by omega)) (f.1 1 (by omega))⟩ hin1 (by omega) (by omega) k
set_option maxHeartbeats 4000000 in
set_option maxRecDepth 100000 in
theorem LC_same {L : Nat} {xs : Nat → Int32} {t n nc ns : Nat} {kd pl : Nat → Nat} {s : Nat → Int} {a : Nat → Int → Int} {c : Nat → cdt} {s1 : Nat → Int} {v1 : Int64} {a1 : Nat → Int → Int} {nm : Nat → Int64} {N i : Int} {T : Int → List Int} {Q : Option Value → List va_E → Nat → Nat → Prop} (hi0 : 0 ≤ i) (hi6 : i + 6 ≤ L) (hL : L ≤ 3072) (hok : okT N T) (hc : cI n kd pl s a c N T) (hm : mI s a s1 a1 N T) (hs : ∀ i, in32 (s i)) (hin : ∀ i j, in32 (a i j)) (hin1 : ∀ i j, in32 (a1 i j)) (hnc : nc ≤ 50 + 12 * t) (hns : ns ≤ 194358 + 503 * t + wt pl) (k : ∀ n' kd' pl' s' a' c' s1' v1' a1' nm' nc' ns', LI (t + 1) n' kd' pl' s' a' c' s1' a1' nc' ns' → pm_E (some (L, xs)) 11 pm_mm0 779 [(0, .retAddr 0), (1, .ref 0), (2, .ref 18), (3, .int (iI i))] [] (ch n' kd' pl' s' a' c' (mc s1' v1' a1' nm')) nc' ns' Q) : pm_E (some (L, xs)) 11 pm_mm0 397 [(0, .retAddr 0), (1, .ref 0), (2, .ref 18), (3, .int (iI i))] [] (ch n kd pl s a c (mc s1 v1 a1 nm)) nc ns Q := by
  obtain ⟨⟨hW, hn50, hq50⟩, hS, hf, ⟨h4, h4'⟩, hb, ⟨ho0, ho1⟩, ⟨h14, h14'⟩, hA, hY⟩ := id hc
  have hp0 : pl 0 = 0 := hW.2.2.2.2.2.2
  obtain ⟨hsh, m4, m3, m45, m45', mt⟩ := id hm
  obtain ⟨hN0, hN32, hT⟩ := id hok
  have s0 : s 0 = N := hS.1
  have m0 : s1 0 = N := hsh.1
  refine pm_e_sim pm_a0_397 rfl ?_
  show pm_E _ _ _ 398 [(0, .retAddr 0), (1, .ref 0), (2, .ref 18), (3, .int (iI i))] [.ref 0] _ _ _ _
  refine pm_e_sim pm_a0_398 rfl ?_
  show pm_E _ _ _ 399 [(0, .retAddr 0), (1, .ref 0), (2, .ref 18), (3, .int (iI i))] [.retAddr 0, .ref 0] _ _ _ _
  refine pm_e_sim pm_a0_399 rfl ?_
  show pm_E _ _ _ 400 [(0, .retAddr 0), (1, .ref 0), (2, .ref 18), (3, .int (iI i))] [.int (iI i), .retAddr 0, .ref 0] _ _ _ _
  refine pm_e_sim pm_a0_400 rfl ?_
  refine pm_e_top (y := iI 1) (by decide +kernel) ?_
  show pm_E _ _ _ 401 [(0, .retAddr 0), (1, .ref 0), (2, .ref 18), (3, .int (iI i))] [.int (iI 1), .int (iI i), .retAddr 0, .ref 0] _ _ _ _
  refine pm_e_sim pm_a0_401 rfl ?_
  refine pm_e_top (y := iI (i + 1)) (iI_add _ _) ?_
  show pm_E _ _ _ 402 [(0, .retAddr 0), (1, .ref 0), (2, .ref 18), (3, .int (iI i))] [.int (iI (i + 1)), .retAddr 0, .ref 0] _ _ _ _
  refine pm_e_sld (j := (i + 1).toNat) pm_a0_402 (pm_ix_I (by omega) (by omega) ⟨by omega, by omega⟩) ?_
  refine pm_e_top (y := iI (xv xs i 1)) (iI_of _).symm ?_
  show pm_E _ _ _ 403 [(0, .retAddr 0), (1, .ref 0), (2, .ref 18), (3, .int (iI i))] [.int (iI (xv xs i 1)), .ref 0] _ _ _ _
  refine pm_e_sim pm_a0_403 rfl ?_
  show pm_E _ _ _ 404 [(0, .retAddr 0), (1, .ref 0), (2, .ref 18), (3, .int (iI i))] [.retAddr 0, .int (iI (xv xs i 1)), .ref 0] _ _ _ _
  refine pm_e_sim pm_a0_404 rfl ?_
  show pm_E _ _ _ 405 [(0, .retAddr 0), (1, .ref 0), (2, .ref 18), (3, .int (iI i))] [.int (iI i), .retAddr 0, .int (iI (xv xs i 1)), .ref 0] _ _ _ _
  refine pm_e_sim pm_a0_405 rfl ?_
  refine pm_e_top (y := iI 2) (by decide +kernel) ?_
  show pm_E _ _ _ 406 [(0, .retAddr 0), (1, .ref 0), (2, .ref 18), (3, .int (iI i))] [.int (iI 2), .int (iI i), .retAddr 0, .int (iI (xv xs i 1)), .ref 0] _ _ _ _
  refine pm_e_sim pm_a0_406 rfl ?_
  refine pm_e_top (y := iI (i + 2)) (iI_add _ _) ?_
  show pm_E _ _ _ 407 [(0, .retAddr 0), (1, .ref 0), (2, .ref 18), (3, .int (iI i))] [.int (iI (i + 2)), .retAddr 0, .int (iI (xv xs i 1)), .ref 0] _ _ _ _
  refine pm_e_sld (j := (i + 2).toNat) pm_a0_407 (pm_ix_I (by omega) (by omega) ⟨by omega, by omega⟩) ?_
  refine pm_e_top (y := iI (xv xs i 2)) (iI_of _).symm ?_
  show pm_E _ _ _ 408 [(0, .retAddr 0), (1, .ref 0), (2, .ref 18), (3, .int (iI i))] [.int (iI (xv xs i 2)), .int (iI (xv xs i 1)), .ref 0] _ _ _ _
  refine pm_i_callv (k := 0) (T2 := pm_mm61) pm_a0_408 rfl rfl rfl (cg0 hW) ⟨Nat.le_of_ble_eq_true rfl, Nat.le_of_ble_eq_true rfl, rfl, by decide +kernel⟩ ?_
  show pm_E none _ _ 0 ((0, .ref 0) :: [(1, .int (iI (xv xs i 1))), (2, .int (iI (xv xs i 2)))]) [] _ _ _ _
  refine pm_e_lv0 hp0 ?_
  refine C_same hW hS hT xv_in xv_in (fun _ => ?_) (fun _ _ _ _ r q1 q2 => ?_)
  · skip
    show pm_E _ _ _ 411 [(0, .retAddr 0), (1, .ref 0), (2, .ref 18), (3, .int (iI i))] [.int (iI (-1))] _ _ _ _
    refine pm_e_sim pm_a0_411 rfl ?_
    show pm_E _ _ _ 412 [(0, .retAddr 0), (1, .ref 0), (2, .ref 18), (3, .int (iI i))] [] _ _ _ _
    exact LM_same hi0 hi6 hL hok hc hm hin1 (by omega) (by omega) k
  · skip
    show pm_E _ _ _ 411 [(0, .retAddr 0), (1, .ref 0), (2, .ref 18), (3, .int (iI i))] [.int (iI r)] _ _ _ _
    refine pm_e_sim pm_a0_411 rfl ?_
    show pm_E _ _ _ 412 [(0, .retAddr 0), (1, .ref 0), (2, .ref 18), (3, .int (iI i))] [] _ _ _ _
    exact LM_same hi0 hi6 hL hok hc hm hin1 (by omega) (by omega) k
set_option maxHeartbeats 4000000 in
set_option maxRecDepth 100000 in
theorem LC_told {L : Nat} {xs : Nat → Int32} {t n nc ns : Nat} {kd pl : Nat → Nat} {s : Nat → Int} {a : Nat → Int → Int} {c : Nat → cdt} {s1 : Nat → Int} {v1 : Int64} {a1 : Nat → Int → Int} {nm : Nat → Int64} {N i : Int} {T : Int → List Int} {Q : Option Value → List va_E → Nat → Nat → Prop} (hi0 : 0 ≤ i) (hi6 : i + 6 ≤ L) (hL : L ≤ 3072) (hok : okT N T) (hc : cI n kd pl s a c N T) (hm : mI s a s1 a1 N T) (hs : ∀ i, in32 (s i)) (hin : ∀ i j, in32 (a i j)) (hin1 : ∀ i j, in32 (a1 i j)) (hnc : nc ≤ 50 + 12 * t) (hns : ns ≤ 194358 + 503 * t + wt pl) (k : ∀ n' kd' pl' s' a' c' s1' v1' a1' nm' nc' ns', LI (t + 1) n' kd' pl' s' a' c' s1' a1' nc' ns' → pm_E (some (L, xs)) 11 pm_mm0 779 [(0, .retAddr 0), (1, .ref 0), (2, .ref 18), (3, .int (iI i))] [] (ch n' kd' pl' s' a' c' (mc s1' v1' a1' nm')) nc' ns' Q) : pm_E (some (L, xs)) 11 pm_mm0 506 [(0, .retAddr 0), (1, .ref 0), (2, .ref 18), (3, .int (iI i))] [] (ch n kd pl s a c (mc s1 v1 a1 nm)) nc ns Q := by
  obtain ⟨⟨hW, hn50, hq50⟩, hS, hf, ⟨h4, h4'⟩, hb, ⟨ho0, ho1⟩, ⟨h14, h14'⟩, hA, hY⟩ := id hc
  have hp0 : pl 0 = 0 := hW.2.2.2.2.2.2
  obtain ⟨hsh, m4, m3, m45, m45', mt⟩ := id hm
  obtain ⟨hN0, hN32, hT⟩ := id hok
  have s0 : s 0 = N := hS.1
  have m0 : s1 0 = N := hsh.1
  refine pm_e_sim pm_a0_506 rfl ?_
  show pm_E _ _ _ 507 [(0, .retAddr 0), (1, .ref 0), (2, .ref 18), (3, .int (iI i))] [.ref 0] _ _ _ _
  refine pm_e_sim pm_a0_507 rfl ?_
  show pm_E _ _ _ 508 [(0, .retAddr 0), (1, .ref 0), (2, .ref 18), (3, .int (iI i))] [.retAddr 0, .ref 0] _ _ _ _
  refine pm_e_sim pm_a0_508 rfl ?_
  show pm_E _ _ _ 509 [(0, .retAddr 0), (1, .ref 0), (2, .ref 18), (3, .int (iI i))] [.int (iI i), .retAddr 0, .ref 0] _ _ _ _
  refine pm_e_sim pm_a0_509 rfl ?_
  refine pm_e_top (y := iI 1) (by decide +kernel) ?_
  show pm_E _ _ _ 510 [(0, .retAddr 0), (1, .ref 0), (2, .ref 18), (3, .int (iI i))] [.int (iI 1), .int (iI i), .retAddr 0, .ref 0] _ _ _ _
  refine pm_e_sim pm_a0_510 rfl ?_
  refine pm_e_top (y := iI (i + 1)) (iI_add _ _) ?_
  show pm_E _ _ _ 511 [(0, .retAddr 0), (1, .ref 0), (2, .ref 18), (3, .int (iI i))] [.int (iI (i + 1)), .retAddr 0, .ref 0] _ _ _ _
  refine pm_e_sld (j := (i + 1).toNat) pm_a0_511 (pm_ix_I (by omega) (by omega) ⟨by omega, by omega⟩) ?_
  refine pm_e_top (y := iI (xv xs i 1)) (iI_of _).symm ?_
  show pm_E _ _ _ 512 [(0, .retAddr 0), (1, .ref 0), (2, .ref 18), (3, .int (iI i))] [.int (iI (xv xs i 1)), .ref 0] _ _ _ _
  refine pm_i_callv (k := 0) (T2 := pm_mm89) pm_a0_512 rfl rfl rfl (cg0 hW) ⟨Nat.le_of_ble_eq_true rfl, Nat.le_of_ble_eq_true rfl, rfl, by decide +kernel⟩ ?_
  show pm_E none _ _ 0 ((0, .ref 0) :: [(1, .int (iI (xv xs i 1)))]) [] _ _ _ _
  refine pm_e_lv0 hp0 ?_
  refine C_told hW xv_in (fun r q0 q1 q2 => ?_)
  · skip
    show pm_E _ _ _ 515 [(0, .retAddr 0), (1, .ref 0), (2, .ref 18), (3, .int (iI i))] [.int (iI r)] _ _ _ _
    refine pm_e_sim pm_a0_515 rfl ?_
    show pm_E _ _ _ 516 [(0, .retAddr 0), (1, .ref 0), (2, .ref 18), (3, .int (iI i))] [] _ _ _ _
    exact LM_told hi0 hi6 hL hok hc hm hin1 (by omega) (by omega) k
set_option maxHeartbeats 4000000 in
set_option maxRecDepth 100000 in
theorem LC_redex {L : Nat} {xs : Nat → Int32} {t n nc ns : Nat} {kd pl : Nat → Nat} {s : Nat → Int} {a : Nat → Int → Int} {c : Nat → cdt} {s1 : Nat → Int} {v1 : Int64} {a1 : Nat → Int → Int} {nm : Nat → Int64} {N i : Int} {T : Int → List Int} {Q : Option Value → List va_E → Nat → Nat → Prop} (hi0 : 0 ≤ i) (hi6 : i + 6 ≤ L) (hL : L ≤ 3072) (hok : okT N T) (hc : cI n kd pl s a c N T) (hm : mI s a s1 a1 N T) (hs : ∀ i, in32 (s i)) (hin : ∀ i j, in32 (a i j)) (hin1 : ∀ i j, in32 (a1 i j)) (hnc : nc ≤ 50 + 12 * t) (hns : ns ≤ 194358 + 503 * t + wt pl) (k : ∀ n' kd' pl' s' a' c' s1' v1' a1' nm' nc' ns', LI (t + 1) n' kd' pl' s' a' c' s1' a1' nc' ns' → pm_E (some (L, xs)) 11 pm_mm0 779 [(0, .retAddr 0), (1, .ref 0), (2, .ref 18), (3, .int (iI i))] [] (ch n' kd' pl' s' a' c' (mc s1' v1' a1' nm')) nc' ns' Q) : pm_E (some (L, xs)) 11 pm_mm0 529 [(0, .retAddr 0), (1, .ref 0), (2, .ref 18), (3, .int (iI i))] [] (ch n kd pl s a c (mc s1 v1 a1 nm)) nc ns Q := by
  obtain ⟨⟨hW, hn50, hq50⟩, hS, hf, ⟨h4, h4'⟩, hb, ⟨ho0, ho1⟩, ⟨h14, h14'⟩, hA, hY⟩ := id hc
  have hp0 : pl 0 = 0 := hW.2.2.2.2.2.2
  obtain ⟨hsh, m4, m3, m45, m45', mt⟩ := id hm
  obtain ⟨hN0, hN32, hT⟩ := id hok
  have s0 : s 0 = N := hS.1
  have m0 : s1 0 = N := hsh.1
  refine pm_e_sim pm_a0_529 rfl ?_
  show pm_E _ _ _ 530 [(0, .retAddr 0), (1, .ref 0), (2, .ref 18), (3, .int (iI i))] [.ref 0] _ _ _ _
  refine pm_e_sim pm_a0_530 rfl ?_
  show pm_E _ _ _ 531 [(0, .retAddr 0), (1, .ref 0), (2, .ref 18), (3, .int (iI i))] [.retAddr 0, .ref 0] _ _ _ _
  refine pm_e_sim pm_a0_531 rfl ?_
  show pm_E _ _ _ 532 [(0, .retAddr 0), (1, .ref 0), (2, .ref 18), (3, .int (iI i))] [.int (iI i), .retAddr 0, .ref 0] _ _ _ _
  refine pm_e_sim pm_a0_532 rfl ?_
  refine pm_e_top (y := iI 1) (by decide +kernel) ?_
  show pm_E _ _ _ 533 [(0, .retAddr 0), (1, .ref 0), (2, .ref 18), (3, .int (iI i))] [.int (iI 1), .int (iI i), .retAddr 0, .ref 0] _ _ _ _
  refine pm_e_sim pm_a0_533 rfl ?_
  refine pm_e_top (y := iI (i + 1)) (iI_add _ _) ?_
  show pm_E _ _ _ 534 [(0, .retAddr 0), (1, .ref 0), (2, .ref 18), (3, .int (iI i))] [.int (iI (i + 1)), .retAddr 0, .ref 0] _ _ _ _
  refine pm_e_sld (j := (i + 1).toNat) pm_a0_534 (pm_ix_I (by omega) (by omega) ⟨by omega, by omega⟩) ?_
  refine pm_e_top (y := iI (xv xs i 1)) (iI_of _).symm ?_
  show pm_E _ _ _ 535 [(0, .retAddr 0), (1, .ref 0), (2, .ref 18), (3, .int (iI i))] [.int (iI (xv xs i 1)), .ref 0] _ _ _ _
  refine pm_e_sim pm_a0_535 rfl ?_
  show pm_E _ _ _ 536 [(0, .retAddr 0), (1, .ref 0), (2, .ref 18), (3, .int (iI i))] [.retAddr 0, .int (iI (xv xs i 1)), .ref 0] _ _ _ _
  refine pm_e_sim pm_a0_536 rfl ?_
  show pm_E _ _ _ 537 [(0, .retAddr 0), (1, .ref 0), (2, .ref 18), (3, .int (iI i))] [.int (iI i), .retAddr 0, .int (iI (xv xs i 1)), .ref 0] _ _ _ _
  refine pm_e_sim pm_a0_537 rfl ?_
  refine pm_e_top (y := iI 2) (by decide +kernel) ?_
  show pm_E _ _ _ 538 [(0, .retAddr 0), (1, .ref 0), (2, .ref 18), (3, .int (iI i))] [.int (iI 2), .int (iI i), .retAddr 0, .int (iI (xv xs i 1)), .ref 0] _ _ _ _
  refine pm_e_sim pm_a0_538 rfl ?_
  refine pm_e_top (y := iI (i + 2)) (iI_add _ _) ?_
  show pm_E _ _ _ 539 [(0, .retAddr 0), (1, .ref 0), (2, .ref 18), (3, .int (iI i))] [.int (iI (i + 2)), .retAddr 0, .int (iI (xv xs i 1)), .ref 0] _ _ _ _
  refine pm_e_sld (j := (i + 2).toNat) pm_a0_539 (pm_ix_I (by omega) (by omega) ⟨by omega, by omega⟩) ?_
  refine pm_e_top (y := iI (xv xs i 2)) (iI_of _).symm ?_
  show pm_E _ _ _ 540 [(0, .retAddr 0), (1, .ref 0), (2, .ref 18), (3, .int (iI i))] [.int (iI (xv xs i 2)), .int (iI (xv xs i 1)), .ref 0] _ _ _ _
  refine pm_i_callv (k := 0) (T2 := pm_mm90) pm_a0_540 rfl rfl rfl (cg0 hW) ⟨Nat.le_of_ble_eq_true rfl, Nat.le_of_ble_eq_true rfl, rfl, by decide +kernel⟩ ?_
  show pm_E none _ _ 0 ((0, .ref 0) :: [(1, .int (iI (xv xs i 1))), (2, .int (iI (xv xs i 2)))]) [] _ _ _ _
  refine pm_e_lv0 hp0 ?_
  refine C_redex hW hS hT xv_in xv_in (hin 1) (fun _ => ?_) (fun _ _ _ _ a' r f hnx => ?_)
  · skip
    show pm_E _ _ _ 543 [(0, .retAddr 0), (1, .ref 0), (2, .ref 18), (3, .int (iI i))] [.int (iI (-1))] _ _ _ _
    refine pm_e_sim pm_a0_543 rfl ?_
    show pm_E _ _ _ 544 [(0, .retAddr 0), (1, .ref 0), (2, .ref 18), (3, .int (iI i))] [] _ _ _ _
    exact LM_redex hi0 hi6 hL hok hc hm hin1 (by omega) (by omega) k
  · skip
    show pm_E _ _ _ 543 [(0, .retAddr 0), (1, .ref 0), (2, .ref 18), (3, .int (iI i))] [.int (iI r)] _ _ _ _
    refine pm_e_sim pm_a0_543 rfl ?_
    show pm_E _ _ _ 544 [(0, .retAddr 0), (1, .ref 0), (2, .ref 18), (3, .int (iI i))] [] _ _ _ _
    exact LM_redex hi0 hi6 hL hok (cI_s hc rfl ⟨h4, h4'⟩ ⟨h14, h14'⟩ (by rw [f.1 0 (by decide) (by decide)]; exact hb)) ⟨hsh, m4.trans rfl, m3.trans (f.1 0 (by decide) (by decide)).symm, m45, m45', tld_c mt (rfl) (rfl) (rfl)⟩ hin1 (by omega) (by omega) k
set_option maxHeartbeats 4000000 in
set_option maxRecDepth 100000 in
theorem LC_redexes {L : Nat} {xs : Nat → Int32} {t n nc ns : Nat} {kd pl : Nat → Nat} {s : Nat → Int} {a : Nat → Int → Int} {c : Nat → cdt} {s1 : Nat → Int} {v1 : Int64} {a1 : Nat → Int → Int} {nm : Nat → Int64} {N i : Int} {T : Int → List Int} {Q : Option Value → List va_E → Nat → Nat → Prop} (hi0 : 0 ≤ i) (hi6 : i + 6 ≤ L) (hL : L ≤ 3072) (hok : okT N T) (hc : cI n kd pl s a c N T) (hm : mI s a s1 a1 N T) (hs : ∀ i, in32 (s i)) (hin : ∀ i j, in32 (a i j)) (hin1 : ∀ i j, in32 (a1 i j)) (hnc : nc ≤ 50 + 12 * t) (hns : ns ≤ 194358 + 503 * t + wt pl) (k : ∀ n' kd' pl' s' a' c' s1' v1' a1' nm' nc' ns', LI (t + 1) n' kd' pl' s' a' c' s1' a1' nc' ns' → pm_E (some (L, xs)) 11 pm_mm0 779 [(0, .retAddr 0), (1, .ref 0), (2, .ref 18), (3, .int (iI i))] [] (ch n' kd' pl' s' a' c' (mc s1' v1' a1' nm')) nc' ns' Q) : pm_E (some (L, xs)) 11 pm_mm0 562 [(0, .retAddr 0), (1, .ref 0), (2, .ref 18), (3, .int (iI i))] [] (ch n kd pl s a c (mc s1 v1 a1 nm)) nc ns Q := by
  obtain ⟨⟨hW, hn50, hq50⟩, hS, hf, ⟨h4, h4'⟩, hb, ⟨ho0, ho1⟩, ⟨h14, h14'⟩, hA, hY⟩ := id hc
  have hp0 : pl 0 = 0 := hW.2.2.2.2.2.2
  obtain ⟨hsh, m4, m3, m45, m45', mt⟩ := id hm
  obtain ⟨hN0, hN32, hT⟩ := id hok
  have s0 : s 0 = N := hS.1
  have m0 : s1 0 = N := hsh.1
  refine pm_e_sim pm_a0_562 rfl ?_
  show pm_E _ _ _ 563 [(0, .retAddr 0), (1, .ref 0), (2, .ref 18), (3, .int (iI i))] [.ref 0] _ _ _ _
  refine pm_e_sim pm_a0_563 rfl ?_
  show pm_E _ _ _ 564 [(0, .retAddr 0), (1, .ref 0), (2, .ref 18), (3, .int (iI i))] [.retAddr 0, .ref 0] _ _ _ _
  refine pm_e_sim pm_a0_564 rfl ?_
  show pm_E _ _ _ 565 [(0, .retAddr 0), (1, .ref 0), (2, .ref 18), (3, .int (iI i))] [.int (iI i), .retAddr 0, .ref 0] _ _ _ _
  refine pm_e_sim pm_a0_565 rfl ?_
  refine pm_e_top (y := iI 1) (by decide +kernel) ?_
  show pm_E _ _ _ 566 [(0, .retAddr 0), (1, .ref 0), (2, .ref 18), (3, .int (iI i))] [.int (iI 1), .int (iI i), .retAddr 0, .ref 0] _ _ _ _
  refine pm_e_sim pm_a0_566 rfl ?_
  refine pm_e_top (y := iI (i + 1)) (iI_add _ _) ?_
  show pm_E _ _ _ 567 [(0, .retAddr 0), (1, .ref 0), (2, .ref 18), (3, .int (iI i))] [.int (iI (i + 1)), .retAddr 0, .ref 0] _ _ _ _
  refine pm_e_sld (j := (i + 1).toNat) pm_a0_567 (pm_ix_I (by omega) (by omega) ⟨by omega, by omega⟩) ?_
  refine pm_e_top (y := iI (xv xs i 1)) (iI_of _).symm ?_
  show pm_E _ _ _ 568 [(0, .retAddr 0), (1, .ref 0), (2, .ref 18), (3, .int (iI i))] [.int (iI (xv xs i 1)), .ref 0] _ _ _ _
  refine pm_i_callv (k := 0) (T2 := pm_mm91) pm_a0_568 rfl rfl rfl (cg0 hW) ⟨Nat.le_of_ble_eq_true rfl, Nat.le_of_ble_eq_true rfl, rfl, by decide +kernel⟩ ?_
  show pm_E none _ _ 0 ((0, .ref 0) :: [(1, .int (iI (xv xs i 1)))]) [] _ _ _ _
  refine pm_e_lv0 hp0 ?_
  refine C_redexes hW hS hT xv_in (fun _ => ?_) (fun _ _ r q1 => ?_)
  · skip
    show pm_E _ _ _ 571 [(0, .retAddr 0), (1, .ref 0), (2, .ref 18), (3, .int (iI i))] [.int (iI (-1))] _ _ _ _
    refine pm_e_sim pm_a0_571 rfl ?_
    show pm_E _ _ _ 572 [(0, .retAddr 0), (1, .ref 0), (2, .ref 18), (3, .int (iI i))] [] _ _ _ _
    exact LM_redexes hi0 hi6 hL hok hc hm hin1 (by omega) (by omega) k
  · skip
    show pm_E _ _ _ 571 [(0, .retAddr 0), (1, .ref 0), (2, .ref 18), (3, .int (iI i))] [.int (iI r)] _ _ _ _
    refine pm_e_sim pm_a0_571 rfl ?_
    show pm_E _ _ _ 572 [(0, .retAddr 0), (1, .ref 0), (2, .ref 18), (3, .int (iI i))] [] _ _ _ _
    exact LM_redexes hi0 hi6 hL hok hc hm hin1 (by omega) (by omega) k
set_option maxHeartbeats 4000000 in
set_option maxRecDepth 100000 in
theorem LC_number {L : Nat} {xs : Nat → Int32} {t n nc ns : Nat} {kd pl : Nat → Nat} {s : Nat → Int} {a : Nat → Int → Int} {c : Nat → cdt} {s1 : Nat → Int} {v1 : Int64} {a1 : Nat → Int → Int} {nm : Nat → Int64} {N i : Int} {T : Int → List Int} {Q : Option Value → List va_E → Nat → Nat → Prop} (hi0 : 0 ≤ i) (hi6 : i + 6 ≤ L) (hL : L ≤ 3072) (hok : okT N T) (hc : cI n kd pl s a c N T) (hm : mI s a s1 a1 N T) (hs : ∀ i, in32 (s i)) (hin : ∀ i j, in32 (a i j)) (hin1 : ∀ i j, in32 (a1 i j)) (hnc : nc ≤ 50 + 12 * t) (hns : ns ≤ 194358 + 503 * t + wt pl) (k : ∀ n' kd' pl' s' a' c' s1' v1' a1' nm' nc' ns', LI (t + 1) n' kd' pl' s' a' c' s1' a1' nc' ns' → pm_E (some (L, xs)) 11 pm_mm0 779 [(0, .retAddr 0), (1, .ref 0), (2, .ref 18), (3, .int (iI i))] [] (ch n' kd' pl' s' a' c' (mc s1' v1' a1' nm')) nc' ns' Q) : pm_E (some (L, xs)) 11 pm_mm0 608 [(0, .retAddr 0), (1, .ref 0), (2, .ref 18), (3, .int (iI i))] [] (ch n kd pl s a c (mc s1 v1 a1 nm)) nc ns Q := by
  obtain ⟨⟨hW, hn50, hq50⟩, hS, hf, ⟨h4, h4'⟩, hb, ⟨ho0, ho1⟩, ⟨h14, h14'⟩, hA, hY⟩ := id hc
  have hp0 : pl 0 = 0 := hW.2.2.2.2.2.2
  obtain ⟨hsh, m4, m3, m45, m45', mt⟩ := id hm
  obtain ⟨hN0, hN32, hT⟩ := id hok
  have s0 : s 0 = N := hS.1
  have m0 : s1 0 = N := hsh.1
  refine pm_e_sim pm_a0_608 rfl ?_
  show pm_E _ _ _ 609 [(0, .retAddr 0), (1, .ref 0), (2, .ref 18), (3, .int (iI i))] [.ref 0] _ _ _ _
  refine pm_e_sim pm_a0_609 rfl ?_
  show pm_E _ _ _ 610 [(0, .retAddr 0), (1, .ref 0), (2, .ref 18), (3, .int (iI i))] [.retAddr 0, .ref 0] _ _ _ _
  refine pm_e_sim pm_a0_610 rfl ?_
  show pm_E _ _ _ 611 [(0, .retAddr 0), (1, .ref 0), (2, .ref 18), (3, .int (iI i))] [.int (iI i), .retAddr 0, .ref 0] _ _ _ _
  refine pm_e_sim pm_a0_611 rfl ?_
  refine pm_e_top (y := iI 1) (by decide +kernel) ?_
  show pm_E _ _ _ 612 [(0, .retAddr 0), (1, .ref 0), (2, .ref 18), (3, .int (iI i))] [.int (iI 1), .int (iI i), .retAddr 0, .ref 0] _ _ _ _
  refine pm_e_sim pm_a0_612 rfl ?_
  refine pm_e_top (y := iI (i + 1)) (iI_add _ _) ?_
  show pm_E _ _ _ 613 [(0, .retAddr 0), (1, .ref 0), (2, .ref 18), (3, .int (iI i))] [.int (iI (i + 1)), .retAddr 0, .ref 0] _ _ _ _
  refine pm_e_sld (j := (i + 1).toNat) pm_a0_613 (pm_ix_I (by omega) (by omega) ⟨by omega, by omega⟩) ?_
  refine pm_e_top (y := iI (xv xs i 1)) (iI_of _).symm ?_
  show pm_E _ _ _ 614 [(0, .retAddr 0), (1, .ref 0), (2, .ref 18), (3, .int (iI i))] [.int (iI (xv xs i 1)), .ref 0] _ _ _ _
  refine pm_i_callv (k := 0) (T2 := pm_mm104) pm_a0_614 rfl rfl rfl (cg0 hW) ⟨Nat.le_of_ble_eq_true rfl, Nat.le_of_ble_eq_true rfl, rfl, by decide +kernel⟩ ?_
  show pm_E none _ _ 0 ((0, .ref 0) :: [(1, .int (iI (xv xs i 1)))]) [] _ _ _ _
  refine pm_e_lv0 hp0 ?_
  refine C_number hW hS hT xv_in (fun _ => ?_) (fun _ _ r q1 => ?_)
  · skip
    show pm_E _ _ _ 617 [(0, .retAddr 0), (1, .ref 0), (2, .ref 18), (3, .int (iI i))] [.int (iI (-1))] _ _ _ _
    refine pm_e_sim pm_a0_617 rfl ?_
    show pm_E _ _ _ 618 [(0, .retAddr 0), (1, .ref 0), (2, .ref 18), (3, .int (iI i))] [] _ _ _ _
    exact LM_number hi0 hi6 hL hok hc hm hin1 (by omega) (by omega) k
  · skip
    show pm_E _ _ _ 617 [(0, .retAddr 0), (1, .ref 0), (2, .ref 18), (3, .int (iI i))] [.int (iI r)] _ _ _ _
    refine pm_e_sim pm_a0_617 rfl ?_
    show pm_E _ _ _ 618 [(0, .retAddr 0), (1, .ref 0), (2, .ref 18), (3, .int (iI i))] [] _ _ _ _
    exact LM_number hi0 hi6 hL hok hc hm hin1 (by omega) (by omega) k
set_option maxHeartbeats 4000000 in
set_option maxRecDepth 100000 in
theorem LC_read {L : Nat} {xs : Nat → Int32} {t n nc ns : Nat} {kd pl : Nat → Nat} {s : Nat → Int} {a : Nat → Int → Int} {c : Nat → cdt} {s1 : Nat → Int} {v1 : Int64} {a1 : Nat → Int → Int} {nm : Nat → Int64} {N i : Int} {T : Int → List Int} {Q : Option Value → List va_E → Nat → Nat → Prop} (hi0 : 0 ≤ i) (hi6 : i + 6 ≤ L) (hL : L ≤ 3072) (hok : okT N T) (hc : cI n kd pl s a c N T) (hm : mI s a s1 a1 N T) (hs : ∀ i, in32 (s i)) (hin : ∀ i j, in32 (a i j)) (hin1 : ∀ i j, in32 (a1 i j)) (hnc : nc ≤ 50 + 12 * t) (hns : ns ≤ 194358 + 503 * t + wt pl) (k : ∀ n' kd' pl' s' a' c' s1' v1' a1' nm' nc' ns', LI (t + 1) n' kd' pl' s' a' c' s1' a1' nc' ns' → pm_E (some (L, xs)) 11 pm_mm0 779 [(0, .retAddr 0), (1, .ref 0), (2, .ref 18), (3, .int (iI i))] [] (ch n' kd' pl' s' a' c' (mc s1' v1' a1' nm')) nc' ns' Q) : pm_E (some (L, xs)) 11 pm_mm0 631 [(0, .retAddr 0), (1, .ref 0), (2, .ref 18), (3, .int (iI i))] [] (ch n kd pl s a c (mc s1 v1 a1 nm)) nc ns Q := by
  obtain ⟨⟨hW, hn50, hq50⟩, hS, hf, ⟨h4, h4'⟩, hb, ⟨ho0, ho1⟩, ⟨h14, h14'⟩, hA, hY⟩ := id hc
  have hp0 : pl 0 = 0 := hW.2.2.2.2.2.2
  obtain ⟨hsh, m4, m3, m45, m45', mt⟩ := id hm
  obtain ⟨hN0, hN32, hT⟩ := id hok
  have s0 : s 0 = N := hS.1
  have m0 : s1 0 = N := hsh.1
  refine pm_e_sim pm_a0_631 rfl ?_
  show pm_E _ _ _ 632 [(0, .retAddr 0), (1, .ref 0), (2, .ref 18), (3, .int (iI i))] [.ref 0] _ _ _ _
  refine pm_e_sim pm_a0_632 rfl ?_
  show pm_E _ _ _ 633 [(0, .retAddr 0), (1, .ref 0), (2, .ref 18), (3, .int (iI i))] [.retAddr 0, .ref 0] _ _ _ _
  refine pm_e_sim pm_a0_633 rfl ?_
  show pm_E _ _ _ 634 [(0, .retAddr 0), (1, .ref 0), (2, .ref 18), (3, .int (iI i))] [.int (iI i), .retAddr 0, .ref 0] _ _ _ _
  refine pm_e_sim pm_a0_634 rfl ?_
  refine pm_e_top (y := iI 1) (by decide +kernel) ?_
  show pm_E _ _ _ 635 [(0, .retAddr 0), (1, .ref 0), (2, .ref 18), (3, .int (iI i))] [.int (iI 1), .int (iI i), .retAddr 0, .ref 0] _ _ _ _
  refine pm_e_sim pm_a0_635 rfl ?_
  refine pm_e_top (y := iI (i + 1)) (iI_add _ _) ?_
  show pm_E _ _ _ 636 [(0, .retAddr 0), (1, .ref 0), (2, .ref 18), (3, .int (iI i))] [.int (iI (i + 1)), .retAddr 0, .ref 0] _ _ _ _
  refine pm_e_sld (j := (i + 1).toNat) pm_a0_636 (pm_ix_I (by omega) (by omega) ⟨by omega, by omega⟩) ?_
  refine pm_e_top (y := iI (xv xs i 1)) (iI_of _).symm ?_
  show pm_E _ _ _ 637 [(0, .retAddr 0), (1, .ref 0), (2, .ref 18), (3, .int (iI i))] [.int (iI (xv xs i 1)), .ref 0] _ _ _ _
  refine pm_e_sim pm_a0_637 rfl ?_
  show pm_E _ _ _ 638 [(0, .retAddr 0), (1, .ref 0), (2, .ref 18), (3, .int (iI i))] [.retAddr 0, .int (iI (xv xs i 1)), .ref 0] _ _ _ _
  refine pm_e_sim pm_a0_638 rfl ?_
  show pm_E _ _ _ 639 [(0, .retAddr 0), (1, .ref 0), (2, .ref 18), (3, .int (iI i))] [.int (iI i), .retAddr 0, .int (iI (xv xs i 1)), .ref 0] _ _ _ _
  refine pm_e_sim pm_a0_639 rfl ?_
  refine pm_e_top (y := iI 2) (by decide +kernel) ?_
  show pm_E _ _ _ 640 [(0, .retAddr 0), (1, .ref 0), (2, .ref 18), (3, .int (iI i))] [.int (iI 2), .int (iI i), .retAddr 0, .int (iI (xv xs i 1)), .ref 0] _ _ _ _
  refine pm_e_sim pm_a0_640 rfl ?_
  refine pm_e_top (y := iI (i + 2)) (iI_add _ _) ?_
  show pm_E _ _ _ 641 [(0, .retAddr 0), (1, .ref 0), (2, .ref 18), (3, .int (iI i))] [.int (iI (i + 2)), .retAddr 0, .int (iI (xv xs i 1)), .ref 0] _ _ _ _
  refine pm_e_sld (j := (i + 2).toNat) pm_a0_641 (pm_ix_I (by omega) (by omega) ⟨by omega, by omega⟩) ?_
  refine pm_e_top (y := iI (xv xs i 2)) (iI_of _).symm ?_
  show pm_E _ _ _ 642 [(0, .retAddr 0), (1, .ref 0), (2, .ref 18), (3, .int (iI i))] [.int (iI (xv xs i 2)), .int (iI (xv xs i 1)), .ref 0] _ _ _ _
  refine pm_i_callv (k := 0) (T2 := pm_mm107) pm_a0_642 rfl rfl rfl (cg0 hW) ⟨Nat.le_of_ble_eq_true rfl, Nat.le_of_ble_eq_true rfl, rfl, by decide +kernel⟩ ?_
  show pm_E none _ _ 0 ((0, .ref 0) :: [(1, .int (iI (xv xs i 1))), (2, .int (iI (xv xs i 2)))]) [] _ _ _ _
  refine pm_e_lv0 hp0 ?_
  refine C_read hW hS hT xv_in xv_in (hin 1) ho0 ho1 (fun _ => ?_) (fun _ _ _ _ _ a' c' f g o0 o1 => ?_) (fun _ _ _ _ _ a' c' r y0 f g o0 o1 => ?_)
  · skip
    show pm_E _ _ _ 645 [(0, .retAddr 0), (1, .ref 0), (2, .ref 18), (3, .int (iI i))] [.int (iI (-1))] _ _ _ _
    refine pm_e_sim pm_a0_645 rfl ?_
    show pm_E _ _ _ 646 [(0, .retAddr 0), (1, .ref 0), (2, .ref 18), (3, .int (iI i))] [] _ _ _ _
    exact LM_read hi0 hi6 hL hok hc hm hin1 (by omega) (by omega) k
  · skip
    show pm_E _ _ _ 645 [(0, .retAddr 0), (1, .ref 0), (2, .ref 18), (3, .int (iI i))] [.int (iI (-3))] _ _ _ _
    refine pm_e_sim pm_a0_645 rfl ?_
    show pm_E _ _ _ 646 [(0, .retAddr 0), (1, .ref 0), (2, .ref 18), (3, .int (iI i))] [] _ _ _ _
    exact LM_read hi0 hi6 hL hok (cI_c01 (cI_s hc rfl ⟨h4, h4'⟩ ⟨h14, h14'⟩ (by rw [f.1 0 (by decide) (by decide)]; exact hb)) g o0 o1) ⟨hsh, m4.trans rfl, m3.trans (f.1 0 (by decide) (by decide)).symm, m45, m45', tld_c mt (rfl) (rfl) (rfl)⟩ hin1 (by omega) (by omega) k
  · skip
    show pm_E _ _ _ 645 [(0, .retAddr 0), (1, .ref 0), (2, .ref 18), (3, .int (iI i))] [.int (iI r)] _ _ _ _
    refine pm_e_sim pm_a0_645 rfl ?_
    show pm_E _ _ _ 646 [(0, .retAddr 0), (1, .ref 0), (2, .ref 18), (3, .int (iI i))] [] _ _ _ _
    exact LM_read hi0 hi6 hL hok (cI_c01 (cI_s hc rfl ⟨h4, h4'⟩ ⟨h14, h14'⟩ (by rw [f.1 0 (by decide) (by decide)]; exact hb)) g o0 o1) ⟨hsh, m4.trans rfl, m3.trans (f.1 0 (by decide) (by decide)).symm, m45, m45', tld_c mt (rfl) (rfl) (rfl)⟩ hin1 (by omega) (by omega) k
set_option maxHeartbeats 4000000 in
set_option maxRecDepth 100000 in
theorem LC_about {L : Nat} {xs : Nat → Int32} {t n nc ns : Nat} {kd pl : Nat → Nat} {s : Nat → Int} {a : Nat → Int → Int} {c : Nat → cdt} {s1 : Nat → Int} {v1 : Int64} {a1 : Nat → Int → Int} {nm : Nat → Int64} {N i : Int} {T : Int → List Int} {Q : Option Value → List va_E → Nat → Nat → Prop} (hi0 : 0 ≤ i) (hi6 : i + 6 ≤ L) (hL : L ≤ 3072) (hok : okT N T) (hc : cI n kd pl s a c N T) (hm : mI s a s1 a1 N T) (hs : ∀ i, in32 (s i)) (hin : ∀ i j, in32 (a i j)) (hin1 : ∀ i j, in32 (a1 i j)) (hnc : nc ≤ 50 + 12 * t) (hns : ns ≤ 194358 + 503 * t + wt pl) (k : ∀ n' kd' pl' s' a' c' s1' v1' a1' nm' nc' ns', LI (t + 1) n' kd' pl' s' a' c' s1' a1' nc' ns' → pm_E (some (L, xs)) 11 pm_mm0 779 [(0, .retAddr 0), (1, .ref 0), (2, .ref 18), (3, .int (iI i))] [] (ch n' kd' pl' s' a' c' (mc s1' v1' a1' nm')) nc' ns' Q) : pm_E (some (L, xs)) 11 pm_mm0 710 [(0, .retAddr 0), (1, .ref 0), (2, .ref 18), (3, .int (iI i))] [] (ch n kd pl s a c (mc s1 v1 a1 nm)) nc ns Q := by
  obtain ⟨⟨hW, hn50, hq50⟩, hS, hf, ⟨h4, h4'⟩, hb, ⟨ho0, ho1⟩, ⟨h14, h14'⟩, hA, hY⟩ := id hc
  have hp0 : pl 0 = 0 := hW.2.2.2.2.2.2
  obtain ⟨hsh, m4, m3, m45, m45', mt⟩ := id hm
  obtain ⟨hN0, hN32, hT⟩ := id hok
  have s0 : s 0 = N := hS.1
  have m0 : s1 0 = N := hsh.1
  refine pm_e_sim pm_a0_710 rfl ?_
  show pm_E _ _ _ 711 [(0, .retAddr 0), (1, .ref 0), (2, .ref 18), (3, .int (iI i))] [.ref 0] _ _ _ _
  refine pm_e_sim pm_a0_711 rfl ?_
  show pm_E _ _ _ 712 [(0, .retAddr 0), (1, .ref 0), (2, .ref 18), (3, .int (iI i))] [.retAddr 0, .ref 0] _ _ _ _
  refine pm_e_sim pm_a0_712 rfl ?_
  show pm_E _ _ _ 713 [(0, .retAddr 0), (1, .ref 0), (2, .ref 18), (3, .int (iI i))] [.int (iI i), .retAddr 0, .ref 0] _ _ _ _
  refine pm_e_sim pm_a0_713 rfl ?_
  refine pm_e_top (y := iI 1) (by decide +kernel) ?_
  show pm_E _ _ _ 714 [(0, .retAddr 0), (1, .ref 0), (2, .ref 18), (3, .int (iI i))] [.int (iI 1), .int (iI i), .retAddr 0, .ref 0] _ _ _ _
  refine pm_e_sim pm_a0_714 rfl ?_
  refine pm_e_top (y := iI (i + 1)) (iI_add _ _) ?_
  show pm_E _ _ _ 715 [(0, .retAddr 0), (1, .ref 0), (2, .ref 18), (3, .int (iI i))] [.int (iI (i + 1)), .retAddr 0, .ref 0] _ _ _ _
  refine pm_e_sld (j := (i + 1).toNat) pm_a0_715 (pm_ix_I (by omega) (by omega) ⟨by omega, by omega⟩) ?_
  refine pm_e_top (y := iI (xv xs i 1)) (iI_of _).symm ?_
  show pm_E _ _ _ 716 [(0, .retAddr 0), (1, .ref 0), (2, .ref 18), (3, .int (iI i))] [.int (iI (xv xs i 1)), .ref 0] _ _ _ _
  refine pm_e_sim pm_a0_716 rfl ?_
  show pm_E _ _ _ 717 [(0, .retAddr 0), (1, .ref 0), (2, .ref 18), (3, .int (iI i))] [.retAddr 0, .int (iI (xv xs i 1)), .ref 0] _ _ _ _
  refine pm_e_sim pm_a0_717 rfl ?_
  show pm_E _ _ _ 718 [(0, .retAddr 0), (1, .ref 0), (2, .ref 18), (3, .int (iI i))] [.int (iI i), .retAddr 0, .int (iI (xv xs i 1)), .ref 0] _ _ _ _
  refine pm_e_sim pm_a0_718 rfl ?_
  refine pm_e_top (y := iI 2) (by decide +kernel) ?_
  show pm_E _ _ _ 719 [(0, .retAddr 0), (1, .ref 0), (2, .ref 18), (3, .int (iI i))] [.int (iI 2), .int (iI i), .retAddr 0, .int (iI (xv xs i 1)), .ref 0] _ _ _ _
  refine pm_e_sim pm_a0_719 rfl ?_
  refine pm_e_top (y := iI (i + 2)) (iI_add _ _) ?_
  show pm_E _ _ _ 720 [(0, .retAddr 0), (1, .ref 0), (2, .ref 18), (3, .int (iI i))] [.int (iI (i + 2)), .retAddr 0, .int (iI (xv xs i 1)), .ref 0] _ _ _ _
  refine pm_e_sld (j := (i + 2).toNat) pm_a0_720 (pm_ix_I (by omega) (by omega) ⟨by omega, by omega⟩) ?_
  refine pm_e_top (y := iI (xv xs i 2)) (iI_of _).symm ?_
  show pm_E _ _ _ 721 [(0, .retAddr 0), (1, .ref 0), (2, .ref 18), (3, .int (iI i))] [.int (iI (xv xs i 2)), .int (iI (xv xs i 1)), .ref 0] _ _ _ _
  refine pm_i_callv (k := 0) (T2 := pm_mm137) pm_a0_721 rfl rfl rfl (cg0 hW) ⟨Nat.le_of_ble_eq_true rfl, Nat.le_of_ble_eq_true rfl, rfl, by decide +kernel⟩ ?_
  show pm_E none _ _ 0 ((0, .ref 0) :: [(1, .int (iI (xv xs i 1))), (2, .int (iI (xv xs i 2)))]) [] _ _ _ _
  refine pm_e_lv0 hp0 ?_
  refine C_about hW hS hT xv_in xv_in (hin 1) (fun _ => ?_) (fun a' r f => ?_)
  · skip
    show pm_E _ _ _ 724 [(0, .retAddr 0), (1, .ref 0), (2, .ref 18), (3, .int (iI i))] [.int (iI (-1))] _ _ _ _
    refine pm_e_sim pm_a0_724 rfl ?_
    show pm_E _ _ _ 725 [(0, .retAddr 0), (1, .ref 0), (2, .ref 18), (3, .int (iI i))] [] _ _ _ _
    exact LM_about hi0 hi6 hL hok hc hm hin1 (by omega) (by omega) k
  · skip
    show pm_E _ _ _ 724 [(0, .retAddr 0), (1, .ref 0), (2, .ref 18), (3, .int (iI i))] [.int (iI r)] _ _ _ _
    refine pm_e_sim pm_a0_724 rfl ?_
    show pm_E _ _ _ 725 [(0, .retAddr 0), (1, .ref 0), (2, .ref 18), (3, .int (iI i))] [] _ _ _ _
    exact LM_about hi0 hi6 hL hok (cI_s hc rfl ⟨h4, h4'⟩ ⟨h14, h14'⟩ (by rw [f.1 0 (by decide) (by decide)]; exact hb)) ⟨hsh, m4.trans rfl, m3.trans (f.1 0 (by decide) (by decide)).symm, m45, m45', tld_c mt (rfl) (rfl) (rfl)⟩ hin1 (by omega) (by omega) k
set_option maxHeartbeats 4000000 in
set_option maxRecDepth 100000 in
theorem LC_count {L : Nat} {xs : Nat → Int32} {t n nc ns : Nat} {kd pl : Nat → Nat} {s : Nat → Int} {a : Nat → Int → Int} {c : Nat → cdt} {s1 : Nat → Int} {v1 : Int64} {a1 : Nat → Int → Int} {nm : Nat → Int64} {N i : Int} {T : Int → List Int} {Q : Option Value → List va_E → Nat → Nat → Prop} (hi0 : 0 ≤ i) (hi6 : i + 6 ≤ L) (hL : L ≤ 3072) (hok : okT N T) (hc : cI n kd pl s a c N T) (hm : mI s a s1 a1 N T) (hs : ∀ i, in32 (s i)) (hin : ∀ i j, in32 (a i j)) (hin1 : ∀ i j, in32 (a1 i j)) (hnc : nc ≤ 50 + 12 * t) (hns : ns ≤ 194358 + 503 * t + wt pl) (k : ∀ n' kd' pl' s' a' c' s1' v1' a1' nm' nc' ns', LI (t + 1) n' kd' pl' s' a' c' s1' a1' nc' ns' → pm_E (some (L, xs)) 11 pm_mm0 779 [(0, .retAddr 0), (1, .ref 0), (2, .ref 18), (3, .int (iI i))] [] (ch n' kd' pl' s' a' c' (mc s1' v1' a1' nm')) nc' ns' Q) : pm_E (some (L, xs)) 11 pm_mm0 756 [(0, .retAddr 0), (1, .ref 0), (2, .ref 18), (3, .int (iI i))] [] (ch n kd pl s a c (mc s1 v1 a1 nm)) nc ns Q := by
  obtain ⟨⟨hW, hn50, hq50⟩, hS, hf, ⟨h4, h4'⟩, hb, ⟨ho0, ho1⟩, ⟨h14, h14'⟩, hA, hY⟩ := id hc
  have hp0 : pl 0 = 0 := hW.2.2.2.2.2.2
  obtain ⟨hsh, m4, m3, m45, m45', mt⟩ := id hm
  obtain ⟨hN0, hN32, hT⟩ := id hok
  have s0 : s 0 = N := hS.1
  have m0 : s1 0 = N := hsh.1
  refine pm_e_sim pm_a0_756 rfl ?_
  show pm_E _ _ _ 757 [(0, .retAddr 0), (1, .ref 0), (2, .ref 18), (3, .int (iI i))] [.ref 0] _ _ _ _
  refine pm_e_sim pm_a0_757 rfl ?_
  show pm_E _ _ _ 758 [(0, .retAddr 0), (1, .ref 0), (2, .ref 18), (3, .int (iI i))] [.retAddr 0, .ref 0] _ _ _ _
  refine pm_e_sim pm_a0_758 rfl ?_
  show pm_E _ _ _ 759 [(0, .retAddr 0), (1, .ref 0), (2, .ref 18), (3, .int (iI i))] [.int (iI i), .retAddr 0, .ref 0] _ _ _ _
  refine pm_e_sim pm_a0_759 rfl ?_
  refine pm_e_top (y := iI 1) (by decide +kernel) ?_
  show pm_E _ _ _ 760 [(0, .retAddr 0), (1, .ref 0), (2, .ref 18), (3, .int (iI i))] [.int (iI 1), .int (iI i), .retAddr 0, .ref 0] _ _ _ _
  refine pm_e_sim pm_a0_760 rfl ?_
  refine pm_e_top (y := iI (i + 1)) (iI_add _ _) ?_
  show pm_E _ _ _ 761 [(0, .retAddr 0), (1, .ref 0), (2, .ref 18), (3, .int (iI i))] [.int (iI (i + 1)), .retAddr 0, .ref 0] _ _ _ _
  refine pm_e_sld (j := (i + 1).toNat) pm_a0_761 (pm_ix_I (by omega) (by omega) ⟨by omega, by omega⟩) ?_
  refine pm_e_top (y := iI (xv xs i 1)) (iI_of _).symm ?_
  show pm_E _ _ _ 762 [(0, .retAddr 0), (1, .ref 0), (2, .ref 18), (3, .int (iI i))] [.int (iI (xv xs i 1)), .ref 0] _ _ _ _
  refine pm_i_callv (k := 0) (T2 := pm_mm141) pm_a0_762 rfl rfl rfl (cg0 hW) ⟨Nat.le_of_ble_eq_true rfl, Nat.le_of_ble_eq_true rfl, rfl, by decide +kernel⟩ ?_
  show pm_E none _ _ 0 ((0, .ref 0) :: [(1, .int (iI (xv xs i 1)))]) [] _ _ _ _
  refine pm_e_lv0 hp0 ?_
  refine C_count hW hS hT xv_in (fun r q0 q1 q2 q3 => ?_)
  · skip
    show pm_E _ _ _ 765 [(0, .retAddr 0), (1, .ref 0), (2, .ref 18), (3, .int (iI i))] [.int (iI r)] _ _ _ _
    refine pm_e_sim pm_a0_765 rfl ?_
    show pm_E _ _ _ 766 [(0, .retAddr 0), (1, .ref 0), (2, .ref 18), (3, .int (iI i))] [] _ _ _ _
    exact LM_count hi0 hi6 hL hok hc hm hin1 (by omega) (by omega) k
set_option maxHeartbeats 4000000 in
set_option maxRecDepth 100000 in
theorem LC_typed {L : Nat} {xs : Nat → Int32} {t n nc ns : Nat} {kd pl : Nat → Nat} {s : Nat → Int} {a : Nat → Int → Int} {c : Nat → cdt} {s1 : Nat → Int} {v1 : Int64} {a1 : Nat → Int → Int} {nm : Nat → Int64} {N i : Int} {T : Int → List Int} {Q : Option Value → List va_E → Nat → Nat → Prop} (hi0 : 0 ≤ i) (hi6 : i + 6 ≤ L) (hL : L ≤ 3072) (hok : okT N T) (hc : cI n kd pl s a c N T) (hm : mI s a s1 a1 N T) (hs : ∀ i, in32 (s i)) (hin : ∀ i j, in32 (a i j)) (hin1 : ∀ i j, in32 (a1 i j)) (hnc : nc ≤ 50 + 12 * t) (hns : ns ≤ 194358 + 503 * t + wt pl) (k : ∀ n' kd' pl' s' a' c' s1' v1' a1' nm' nc' ns', LI (t + 1) n' kd' pl' s' a' c' s1' a1' nc' ns' → pm_E (some (L, xs)) 11 pm_mm0 779 [(0, .retAddr 0), (1, .ref 0), (2, .ref 18), (3, .int (iI i))] [] (ch n' kd' pl' s' a' c' (mc s1' v1' a1' nm')) nc' ns' Q) : pm_E (some (L, xs)) 11 pm_mm0 664 [(0, .retAddr 0), (1, .ref 0), (2, .ref 18), (3, .int (iI i))] [] (ch n kd pl s a c (mc s1 v1 a1 nm)) nc ns Q := by
  obtain ⟨⟨hW, hn50, hq50⟩, hS, hf, ⟨h4, h4'⟩, hb, ⟨ho0, ho1⟩, ⟨h14, h14'⟩, hA, hY⟩ := id hc
  have hp0 : pl 0 = 0 := hW.2.2.2.2.2.2
  obtain ⟨hsh, m4, m3, m45, m45', mt⟩ := id hm
  obtain ⟨hN0, hN32, hT⟩ := id hok
  have s0 : s 0 = N := hS.1
  have m0 : s1 0 = N := hsh.1
  refine pm_e_sim pm_a0_664 rfl ?_
  show pm_E _ _ _ 665 [(0, .retAddr 0), (1, .ref 0), (2, .ref 18), (3, .int (iI i))] [.ref 0] _ _ _ _
  refine pm_e_sim pm_a0_665 rfl ?_
  show pm_E _ _ _ 666 [(0, .retAddr 0), (1, .ref 0), (2, .ref 18), (3, .int (iI i))] [.retAddr 0, .ref 0] _ _ _ _
  refine pm_e_sim pm_a0_666 rfl ?_
  show pm_E _ _ _ 667 [(0, .retAddr 0), (1, .ref 0), (2, .ref 18), (3, .int (iI i))] [.int (iI i), .retAddr 0, .ref 0] _ _ _ _
  refine pm_e_sim pm_a0_667 rfl ?_
  refine pm_e_top (y := iI 1) (by decide +kernel) ?_
  show pm_E _ _ _ 668 [(0, .retAddr 0), (1, .ref 0), (2, .ref 18), (3, .int (iI i))] [.int (iI 1), .int (iI i), .retAddr 0, .ref 0] _ _ _ _
  refine pm_e_sim pm_a0_668 rfl ?_
  refine pm_e_top (y := iI (i + 1)) (iI_add _ _) ?_
  show pm_E _ _ _ 669 [(0, .retAddr 0), (1, .ref 0), (2, .ref 18), (3, .int (iI i))] [.int (iI (i + 1)), .retAddr 0, .ref 0] _ _ _ _
  refine pm_e_sld (j := (i + 1).toNat) pm_a0_669 (pm_ix_I (by omega) (by omega) ⟨by omega, by omega⟩) ?_
  refine pm_e_top (y := iI (xv xs i 1)) (iI_of _).symm ?_
  show pm_E _ _ _ 670 [(0, .retAddr 0), (1, .ref 0), (2, .ref 18), (3, .int (iI i))] [.int (iI (xv xs i 1)), .ref 0] _ _ _ _
  refine pm_i_callv (k := 0) (T2 := pm_mm109) pm_a0_670 rfl rfl rfl (cg0 hW) ⟨Nat.le_of_ble_eq_true rfl, Nat.le_of_ble_eq_true rfl, rfl, by decide +kernel⟩ ?_
  show pm_E none _ _ 0 ((0, .ref 0) :: [(1, .int (iI (xv xs i 1)))]) [] _ _ _ _
  refine pm_e_lv0 hp0 ?_
  refine C_typed hW hS hT xv_in (hin 1) (fun z => ?_) (fun z => ?_) (fun _ => ?_) (fun n' kd' pl' nc' ns' s' a' c' r hg z1 z2 z3 z4 => ?_)
  · intro k9 hk9
    rcases hY with h | ⟨h, _⟩
    · exact ⟨h k9 hk9, fun e => by subst e; exact absurd hk9 (by decide)⟩
    · exact absurd z (al_pos hW h (by decide))
  · rcases hY with h | ⟨_, h1, h2⟩
    · exact absurd (h 203 (by decide)) (al_pos hW z (by decide))
    · exact ⟨h1, h2, hs 20, hs 21, hs 22⟩
  · skip
    show pm_E _ _ _ 673 [(0, .retAddr 0), (1, .ref 0), (2, .ref 18), (3, .int (iI i))] [.int (iI (-1))] _ _ _ _
    refine pm_e_sim pm_a0_673 rfl ?_
    show pm_E _ _ _ 674 [(0, .retAddr 0), (1, .ref 0), (2, .ref 18), (3, .int (iI i))] [] _ _ _ _
    exact LM_typed hi0 hi6 hL hok hc hm hin1 (by omega) (by omega) k
  · skip
    show pm_E _ _ _ 673 [(0, .retAddr 0), (1, .ref 0), (2, .ref 18), (3, .int (iI i))] [.int (iI r)] _ _ _ _
    refine pm_e_sim pm_a0_673 rfl ?_
    show pm_E _ _ _ 674 [(0, .retAddr 0), (1, .ref 0), (2, .ref 18), (3, .int (iI i))] [] _ _ _ _
    exact LM_typed hi0 hi6 hL hok (cI_Y hc hg.1 hg.2 z3 z4) ⟨hsh, m4.trans (z3.1 4 (by omega)).symm, m3.trans (z3.2.1 0 (by omega) (by decide) (by decide)).symm, m45, m45', tld_c mt (z3.1 2 (by omega)) (z3.1 3 (by omega)) (z3.1 1 (by omega))⟩ hin1 (by omega) (by rcases z2 with z2 | ⟨z2, z5⟩; (have := wt_le hg.1 hW; omega); (have := wt_Y hg.1 hW z2 z4; omega)) k
set_option maxHeartbeats 4000000 in
set_option maxRecDepth 100000 in
theorem LC_type {L : Nat} {xs : Nat → Int32} {t n nc ns : Nat} {kd pl : Nat → Nat} {s : Nat → Int} {a : Nat → Int → Int} {c : Nat → cdt} {s1 : Nat → Int} {v1 : Int64} {a1 : Nat → Int → Int} {nm : Nat → Int64} {N i : Int} {T : Int → List Int} {Q : Option Value → List va_E → Nat → Nat → Prop} (hi0 : 0 ≤ i) (hi6 : i + 6 ≤ L) (hL : L ≤ 3072) (hok : okT N T) (hc : cI n kd pl s a c N T) (hm : mI s a s1 a1 N T) (hs : ∀ i, in32 (s i)) (hin : ∀ i j, in32 (a i j)) (hin1 : ∀ i j, in32 (a1 i j)) (hnc : nc ≤ 50 + 12 * t) (hns : ns ≤ 194358 + 503 * t + wt pl) (k : ∀ n' kd' pl' s' a' c' s1' v1' a1' nm' nc' ns', LI (t + 1) n' kd' pl' s' a' c' s1' a1' nc' ns' → pm_E (some (L, xs)) 11 pm_mm0 779 [(0, .retAddr 0), (1, .ref 0), (2, .ref 18), (3, .int (iI i))] [] (ch n' kd' pl' s' a' c' (mc s1' v1' a1' nm')) nc' ns' Q) : pm_E (some (L, xs)) 11 pm_mm0 687 [(0, .retAddr 0), (1, .ref 0), (2, .ref 18), (3, .int (iI i))] [] (ch n kd pl s a c (mc s1 v1 a1 nm)) nc ns Q := by
  obtain ⟨⟨hW, hn50, hq50⟩, hS, hf, ⟨h4, h4'⟩, hb, ⟨ho0, ho1⟩, ⟨h14, h14'⟩, hA, hY⟩ := id hc
  have hp0 : pl 0 = 0 := hW.2.2.2.2.2.2
  obtain ⟨hsh, m4, m3, m45, m45', mt⟩ := id hm
  obtain ⟨hN0, hN32, hT⟩ := id hok
  have s0 : s 0 = N := hS.1
  have m0 : s1 0 = N := hsh.1
  refine pm_e_sim pm_a0_687 rfl ?_
  show pm_E _ _ _ 688 [(0, .retAddr 0), (1, .ref 0), (2, .ref 18), (3, .int (iI i))] [.ref 0] _ _ _ _
  refine pm_e_sim pm_a0_688 rfl ?_
  show pm_E _ _ _ 689 [(0, .retAddr 0), (1, .ref 0), (2, .ref 18), (3, .int (iI i))] [.retAddr 0, .ref 0] _ _ _ _
  refine pm_e_sim pm_a0_689 rfl ?_
  show pm_E _ _ _ 690 [(0, .retAddr 0), (1, .ref 0), (2, .ref 18), (3, .int (iI i))] [.int (iI i), .retAddr 0, .ref 0] _ _ _ _
  refine pm_e_sim pm_a0_690 rfl ?_
  refine pm_e_top (y := iI 1) (by decide +kernel) ?_
  show pm_E _ _ _ 691 [(0, .retAddr 0), (1, .ref 0), (2, .ref 18), (3, .int (iI i))] [.int (iI 1), .int (iI i), .retAddr 0, .ref 0] _ _ _ _
  refine pm_e_sim pm_a0_691 rfl ?_
  refine pm_e_top (y := iI (i + 1)) (iI_add _ _) ?_
  show pm_E _ _ _ 692 [(0, .retAddr 0), (1, .ref 0), (2, .ref 18), (3, .int (iI i))] [.int (iI (i + 1)), .retAddr 0, .ref 0] _ _ _ _
  refine pm_e_sld (j := (i + 1).toNat) pm_a0_692 (pm_ix_I (by omega) (by omega) ⟨by omega, by omega⟩) ?_
  refine pm_e_top (y := iI (xv xs i 1)) (iI_of _).symm ?_
  show pm_E _ _ _ 693 [(0, .retAddr 0), (1, .ref 0), (2, .ref 18), (3, .int (iI i))] [.int (iI (xv xs i 1)), .ref 0] _ _ _ _
  refine pm_i_callv (k := 0) (T2 := pm_mm136) pm_a0_693 rfl rfl rfl (cg0 hW) ⟨Nat.le_of_ble_eq_true rfl, Nat.le_of_ble_eq_true rfl, rfl, by decide +kernel⟩ ?_
  show pm_E none _ _ 0 ((0, .ref 0) :: [(1, .int (iI (xv xs i 1)))]) [] _ _ _ _
  refine pm_e_lv0 hp0 ?_
  rcases hY with hY | ⟨hY, _, hY5⟩
  · refine C_type0 hW (hY 203 (by decide)) (fun r => ?_)
    show pm_E _ _ _ 696 [(0, .retAddr 0), (1, .ref 0), (2, .ref 18), (3, .int (iI i))] [.int (iI r)] _ _ _ _
    refine pm_e_sim pm_a0_696 rfl ?_
    show pm_E _ _ _ 697 [(0, .retAddr 0), (1, .ref 0), (2, .ref 18), (3, .int (iI i))] [] _ _ _ _
    exact LM_type hi0 hi6 hL hok hc hm hin1 (by omega) (by omega) k
  · refine C_type1 hW hY hY5 xv_in (fun r => ?_)
    show pm_E _ _ _ 696 [(0, .retAddr 0), (1, .ref 0), (2, .ref 18), (3, .int (iI i))] [.int (iI r)] _ _ _ _
    refine pm_e_sim pm_a0_696 rfl ?_
    show pm_E _ _ _ 697 [(0, .retAddr 0), (1, .ref 0), (2, .ref 18), (3, .int (iI i))] [] _ _ _ _
    exact LM_type hi0 hi6 hL hok hc hm hin1 (by omega) (by omega) k
