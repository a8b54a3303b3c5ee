/-! THE LAW: step, steps, abstracted, drop -/
theorem cI_st {n : Nat} {kd pl : Nat → Nat} {s s' : Nat → Int} {a a' : Nat → Int → Int} {c c' : Nat → cdt} {N x : Int} {T : Int → List Int} {l : List Int} (h : cI n kd pl s a c N T) (x0 : 0 ≤ x) (x1 : x < N) (hr : ∀ i, i ≠ 1 → i ≠ 6 + x.toNat → c' i = c i) (o1 : okx (rm 1) (c' 1)) (hl : md (c' (6 + x.toNat)) (rm (6 + x.toNat)) l) (h0 : s' 0 = s 0) (h4 : s' 4 = s 4) (h14 : s' 14 = s 14) (ha : a' 0 = a 0) : cI n kd pl s' a' c' N (upT T x l) := by
  obtain ⟨g1, ⟨q1, q2, q3, q4⟩, g3, g4, g5, g6, g7, g8, g9⟩ := h
  refine ⟨g1, ⟨h0.trans q1, q2, q3, fun t t0 t1 => ?_⟩, fun i i0 i1 => ?_, by rw [h4]; exact g4, by rw [ha]; exact g5, ⟨?_, o1⟩, by rw [h14]; exact g7, ?_, ?_⟩
  · unfold upT
    by_cases e : t = x
    · rw [if_pos e, e]; exact ⟨(q4 x x0 x1).1, hl⟩
    · rw [if_neg e, hr _ (by omega) (by omega)]; exact q4 t t0 t1
  · rw [hr _ (by omega) (by omega)]; exact g3 i i0 i1
  · rw [hr 0 (by decide) (by omega)]; exact g6.1
  · rw [hr 2 (by decide) (by omega), hr 3 (by decide) (by omega)]; exact g8
  · rw [hr 4 (by decide) (by omega), hr 5 (by decide) (by omega)]; exact g9
set_option maxHeartbeats 4000000 in
set_option maxRecDepth 100000 in
theorem LM_step_b {L : Nat} {xs : Nat → Int32} {t n nc ns : Nat} {kd pl : Nat → Nat} {s : Nat → Int} {a : Nat → Int → Int} {c : Nat → cdt} {s1 : Nat → Int} {v1 : Int64} {a1 : Nat → Int → Int} {nm : Nat → Int64} {N i : Int} {T : Int → List Int} {Q : Option Value → List va_E → Nat → Nat → Prop} (hi0 : 0 ≤ i) (hi6 : i + 6 ≤ L) (hL : L ≤ 3072) (hok : okT N T) (hc : cI n kd pl s a c N T) (hm : mI s a s1 a1 N T) (hin1 : ∀ i j, in32 (a1 i j)) (hnc : nc ≤ 50 + 12 * (t + 1)) (hns : ns ≤ 194358 + 503 * (t + 1) + wt pl) (hx : (xv xs i 1) < 0 ∨ N ≤ (xv xs i 1) ∨ (xv xs i 2) < 0 ∨ 3 < (xv xs i 2)) (k : ∀ n' kd' pl' s' a' c' s1' v1' a1' nm' nc' ns', LI (t + 1) n' kd' pl' s' a' c' s1' a1' nc' ns' → pm_E (some (L, xs)) 11 pm_mm0 779 [(0, .retAddr 0), (1, .ref 0), (2, .ref 18), (3, .int (iI i))] [] (ch n' kd' pl' s' a' c' (mc s1' v1' a1' nm')) nc' ns' Q) : pm_E (some (L, xs)) 11 pm_mm0 445 [(0, .retAddr 0), (1, .ref 0), (2, .ref 18), (3, .int (iI i))] [] (ch n kd pl s a c (mc s1 v1 a1 nm)) nc ns Q := by
  obtain ⟨⟨hW, hn50, hq50⟩, hS, hf, ⟨h4, h4'⟩, hb, ⟨ho0, ho1⟩, ⟨h14, h14'⟩, hA, hY⟩ := id hc
  have hp0 : pl 0 = 0 := hW.2.2.2.2.2.2
  obtain ⟨hsh, m4, m3, m45, m45', mt⟩ := id hm
  obtain ⟨hN0, hN32, hT⟩ := id hok
  have s0 : s 0 = N := hS.1
  have m0 : s1 0 = N := hsh.1
  refine pm_e_sim pm_a0_445 rfl ?_
  show pm_E _ _ _ 446 [(0, .retAddr 0), (1, .ref 0), (2, .ref 18), (3, .int (iI i))] [.ref 18] _ _ _ _
  refine pm_e_sim pm_a0_446 rfl ?_
  show pm_E _ _ _ 447 [(0, .retAddr 0), (1, .ref 0), (2, .ref 18), (3, .int (iI i))] [.retAddr 0, .ref 18] _ _ _ _
  refine pm_e_sim pm_a0_447 rfl ?_
  show pm_E _ _ _ 448 [(0, .retAddr 0), (1, .ref 0), (2, .ref 18), (3, .int (iI i))] [.int (iI i), .retAddr 0, .ref 18] _ _ _ _
  refine pm_e_sim pm_a0_448 rfl ?_
  refine pm_e_top (y := iI 1) (by decide +kernel) ?_
  show pm_E _ _ _ 449 [(0, .retAddr 0), (1, .ref 0), (2, .ref 18), (3, .int (iI i))] [.int (iI 1), .int (iI i), .retAddr 0, .ref 18] _ _ _ _
  refine pm_e_sim pm_a0_449 rfl ?_
  refine pm_e_top (y := iI (i + 1)) (iI_add _ _) ?_
  show pm_E _ _ _ 450 [(0, .retAddr 0), (1, .ref 0), (2, .ref 18), (3, .int (iI i))] [.int (iI (i + 1)), .retAddr 0, .ref 18] _ _ _ _
  refine pm_e_sld (j := (i + 1).toNat) pm_a0_450 (pm_ix_I (by omega) (by omega) ⟨by omega, by omega⟩) ?_
  refine pm_e_top (y := iI (xv xs i 1)) (iI_of _).symm ?_
  show pm_E _ _ _ 451 [(0, .retAddr 0), (1, .ref 0), (2, .ref 18), (3, .int (iI i))] [.int (iI (xv xs i 1)), .ref 18] _ _ _ _
  refine pm_e_sim pm_a0_451 rfl ?_
  show pm_E _ _ _ 452 [(0, .retAddr 0), (1, .ref 0), (2, .ref 18), (3, .int (iI i))] [.retAddr 0, .int (iI (xv xs i 1)), .ref 18] _ _ _ _
  refine pm_e_sim pm_a0_452 rfl ?_
  show pm_E _ _ _ 453 [(0, .retAddr 0), (1, .ref 0), (2, .ref 18), (3, .int (iI i))] [.int (iI i), .retAddr 0, .int (iI (xv xs i 1)), .ref 18] _ _ _ _
  refine pm_e_sim pm_a0_453 rfl ?_
  refine pm_e_top (y := iI 2) (by decide +kernel) ?_
  show pm_E _ _ _ 454 [(0, .retAddr 0), (1, .ref 0), (2, .ref 18), (3, .int (iI i))] [.int (iI 2), .int (iI i), .retAddr 0, .int (iI (xv xs i 1)), .ref 18] _ _ _ _
  refine pm_e_sim pm_a0_454 rfl ?_
  refine pm_e_top (y := iI (i + 2)) (iI_add _ _) ?_
  show pm_E _ _ _ 455 [(0, .retAddr 0), (1, .ref 0), (2, .ref 18), (3, .int (iI i))] [.int (iI (i + 2)), .retAddr 0, .int (iI (xv xs i 1)), .ref 18] _ _ _ _
  refine pm_e_sld (j := (i + 2).toNat) pm_a0_455 (pm_ix_I (by omega) (by omega) ⟨by omega, by omega⟩) ?_
  refine pm_e_top (y := iI (xv xs i 2)) (iI_of _).symm ?_
  show pm_E _ _ _ 456 [(0, .retAddr 0), (1, .ref 0), (2, .ref 18), (3, .int (iI i))] [.int (iI (xv xs i 2)), .int (iI (xv xs i 1)), .ref 18] _ _ _ _
  rw [ch_mh hW hn50 hq50]
  refine pm_i_callv (k := 18) (T2 := pm_mm177) pm_a0_456 rfl rfl rfl (mh_get (j := 0) kA18_len rfl) ⟨Nat.le_of_ble_eq_true rfl, Nat.le_of_ble_eq_true rfl, rfl, by decide +kernel⟩ ?_
  show pm_E none _ _ 0 [(0, .ref 18), (1, .int (iI (xv xs i 1))), (2, .int (iI (xv xs i 2)))] [] _ _ _ _
  refine M_step_b kA18_len hin1 hok hsh xv_in xv_in hx ?_
  · skip
    rw [← ch_mh hW hn50 hq50]
    show pm_E _ _ _ 459 [(0, .retAddr 0), (1, .ref 0), (2, .ref 18), (3, .int (iI i))] [.int (iI (-1))] _ _ _ _
    refine pm_e_sim pm_a0_459 rfl ?_
    show pm_E _ _ _ 460 [(0, .retAddr 0), (1, .ref 0), (2, .ref 18), (3, .int (iI i))] [] _ _ _ _
    refine pm_e_goto pm_a0_460 rfl ?_
    show pm_E _ _ _ 779 [(0, .retAddr 0), (1, .ref 0), (2, .ref 18), (3, .int (iI i))] [] _ _ _ _
    exact k _ _ _ _ _ _ _ _ _ _ _ _ ⟨N, T, hok, hc, hm, by omega, by omega⟩
set_option maxHeartbeats 4000000 in
set_option maxRecDepth 100000 in
theorem LM_step_k {L : Nat} {xs : Nat → Int32} {t n nc ns : Nat} {kd pl : Nat → Nat} {s : Nat → Int} {a : Nat → Int → Int} {c : Nat → cdt} {s1 : Nat → Int} {v1 : Int64} {a1 : Nat → Int → Int} {nm : Nat → Int64} {N i : Int} {T : Int → List Int} {Q : Option Value → List va_E → Nat → Nat → Prop} {l : List Int} {r0 : Int} (hi0 : 0 ≤ i) (hi6 : i + 6 ≤ L) (hL : L ≤ 3072) (hok : okT N T) (hc : cI n kd pl s a c N (upT T (xv xs i 1) l)) (hsh : sh s1 a1 N T) (e4 : s1 4 = s 4) (e0 : a1 3 = a 0) (x0 : 0 ≤ (xv xs i 1)) (x1 : (xv xs i 1) < N) (x2 : 0 ≤ (xv xs i 2)) (x3 : (xv xs i 2) ≤ 3) (hst : stp (xv xs i 2) (T (xv xs i 1)) r0 l) (m45 : 0 ≤ s1 45) (m45' : s1 45 ≤ 500) (mt : tld s s1) (hin1 : ∀ i j, in32 (a1 i j)) (hnc : nc ≤ 50 + 12 * (t + 1)) (hns : ns ≤ 194358 + 503 * (t + 1) + wt pl) (k : ∀ n' kd' pl' s' a' c' s1' v1' a1' nm' nc' ns', LI (t + 1) n' kd' pl' s' a' c' s1' a1' nc' ns' → pm_E (some (L, xs)) 11 pm_mm0 779 [(0, .retAddr 0), (1, .ref 0), (2, .ref 18), (3, .int (iI i))] [] (ch n' kd' pl' s' a' c' (mc s1' v1' a1' nm')) nc' ns' Q) : pm_E (some (L, xs)) 11 pm_mm0 445 [(0, .retAddr 0), (1, .ref 0), (2, .ref 18), (3, .int (iI i))] [] (ch n kd pl s a c (mc s1 v1 a1 nm)) nc ns Q := by
  obtain ⟨⟨hW, hn50, hq50⟩, hS, hf, ⟨h4, h4'⟩, hb, ⟨ho0, ho1⟩, ⟨h14, h14'⟩, hA, hY⟩ := id hc
  have hp0 : pl 0 = 0 := hW.2.2.2.2.2.2
  obtain ⟨hN0, hN32, hT⟩ := id hok
  obtain ⟨y1, F, y2⟩ := hT _ x0 x1
  refine pm_e_sim pm_a0_445 rfl ?_
  show pm_E _ _ _ 446 [(0, .retAddr 0), (1, .ref 0), (2, .ref 18), (3, .int (iI i))] [.ref 18] _ _ _ _
  refine pm_e_sim pm_a0_446 rfl ?_
  show pm_E _ _ _ 447 [(0, .retAddr 0), (1, .ref 0), (2, .ref 18), (3, .int (iI i))] [.retAddr 0, .ref 18] _ _ _ _
  refine pm_e_sim pm_a0_447 rfl ?_
  show pm_E _ _ _ 448 [(0, .retAddr 0), (1, .ref 0), (2, .ref 18), (3, .int (iI i))] [.int (iI i), .retAddr 0, .ref 18] _ _ _ _
  refine pm_e_sim pm_a0_448 rfl ?_
  refine pm_e_top (y := iI 1) (by decide +kernel) ?_
  show pm_E _ _ _ 449 [(0, .retAddr 0), (1, .ref 0), (2, .ref 18), (3, .int (iI i))] [.int (iI 1), .int (iI i), .retAddr 0, .ref 18] _ _ _ _
  refine pm_e_sim pm_a0_449 rfl ?_
  refine pm_e_top (y := iI (i + 1)) (iI_add _ _) ?_
  show pm_E _ _ _ 450 [(0, .retAddr 0), (1, .ref 0), (2, .ref 18), (3, .int (iI i))] [.int (iI (i + 1)), .retAddr 0, .ref 18] _ _ _ _
  refine pm_e_sld (j := (i + 1).toNat) pm_a0_450 (pm_ix_I (by omega) (by omega) ⟨by omega, by omega⟩) ?_
  refine pm_e_top (y := iI (xv xs i 1)) (iI_of _).symm ?_
  show pm_E _ _ _ 451 [(0, .retAddr 0), (1, .ref 0), (2, .ref 18), (3, .int (iI i))] [.int (iI (xv xs i 1)), .ref 18] _ _ _ _
  refine pm_e_sim pm_a0_451 rfl ?_
  show pm_E _ _ _ 452 [(0, .retAddr 0), (1, .ref 0), (2, .ref 18), (3, .int (iI i))] [.retAddr 0, .int (iI (xv xs i 1)), .ref 18] _ _ _ _
  refine pm_e_sim pm_a0_452 rfl ?_
  show pm_E _ _ _ 453 [(0, .retAddr 0), (1, .ref 0), (2, .ref 18), (3, .int (iI i))] [.int (iI i), .retAddr 0, .int (iI (xv xs i 1)), .ref 18] _ _ _ _
  refine pm_e_sim pm_a0_453 rfl ?_
  refine pm_e_top (y := iI 2) (by decide +kernel) ?_
  show pm_E _ _ _ 454 [(0, .retAddr 0), (1, .ref 0), (2, .ref 18), (3, .int (iI i))] [.int (iI 2), .int (iI i), .retAddr 0, .int (iI (xv xs i 1)), .ref 18] _ _ _ _
  refine pm_e_sim pm_a0_454 rfl ?_
  refine pm_e_top (y := iI (i + 2)) (iI_add _ _) ?_
  show pm_E _ _ _ 455 [(0, .retAddr 0), (1, .ref 0), (2, .ref 18), (3, .int (iI i))] [.int (iI (i + 2)), .retAddr 0, .int (iI (xv xs i 1)), .ref 18] _ _ _ _
  refine pm_e_sld (j := (i + 2).toNat) pm_a0_455 (pm_ix_I (by omega) (by omega) ⟨by omega, by omega⟩) ?_
  refine pm_e_top (y := iI (xv xs i 2)) (iI_of _).symm ?_
  show pm_E _ _ _ 456 [(0, .retAddr 0), (1, .ref 0), (2, .ref 18), (3, .int (iI i))] [.int (iI (xv xs i 2)), .int (iI (xv xs i 1)), .ref 18] _ _ _ _
  rw [ch_mh hW hn50 hq50]
  refine pm_i_callv (k := 18) (T2 := pm_mm177) pm_a0_456 rfl rfl rfl (mh_get (j := 0) kA18_len rfl) ⟨Nat.le_of_ble_eq_true rfl, Nat.le_of_ble_eq_true rfl, rfl, by decide +kernel⟩ ?_
  show pm_E none _ _ 0 [(0, .ref 18), (1, .int (iI (xv xs i 1))), (2, .int (iI (xv xs i 2)))] [] _ _ _ _
  refine M_step kA18_len hin1 hok hsh xv_in xv_in (fun z => absurd z (by omega)) (fun r l' s1' a1' z f0 f4 f3 => ?_)
  · skip
    rw [← ch_mh hW hn50 hq50]
    show pm_E _ _ _ 459 [(0, .retAddr 0), (1, .ref 0), (2, .ref 18), (3, .int (iI i))] [.int (iI r)] _ _ _ _
    refine pm_e_sim pm_a0_459 rfl ?_
    show pm_E _ _ _ 460 [(0, .retAddr 0), (1, .ref 0), (2, .ref 18), (3, .int (iI i))] [] _ _ _ _
    refine pm_e_goto pm_a0_460 rfl ?_
    show pm_E _ _ _ 779 [(0, .retAddr 0), (1, .ref 0), (2, .ref 18), (3, .int (iI i))] [] _ _ _ _
    obtain ⟨_, e9⟩ := stp_one y2 hst z
    subst e9
    obtain ⟨w1, F', w2⟩ := stp_ok y2 y1 hst
    exact k _ _ _ _ _ _ _ _ _ _ _ _ ⟨N, _, okT_up hok w1 w2, hc, ⟨f0, f4.1.trans e4, f3.trans e0, by omega, by omega, tld_m mt f4.2.2.1 f4.2.2.2.1 f4.2.2.2.2⟩, by omega, by omega⟩
set_option maxHeartbeats 4000000 in
set_option maxRecDepth 100000 in
theorem LC_step {L : Nat} {xs : Nat → Int32} {t n nc ns : Nat} {kd pl : Nat → Nat} {s : Nat → Int} {a : Nat → Int → Int} {c : Nat → cdt} {s1 : Nat → Int} {v1 : Int64} {a1 : Nat → Int → Int} {nm : Nat → Int64} {N i : Int} {T : Int → List Int} {Q : Option Value → List va_E → Nat → Nat → Prop} (hi0 : 0 ≤ i) (hi6 : i + 6 ≤ L) (hL : L ≤ 3072) (hok : okT N T) (hc : cI n kd pl s a c N T) (hm : mI s a s1 a1 N T) (hs : ∀ i, in32 (s i)) (hin : ∀ i j, in32 (a i j)) (hin1 : ∀ i j, in32 (a1 i j)) (hnc : nc ≤ 50 + 12 * t) (hns : ns ≤ 194358 + 503 * t + wt pl) (k : ∀ n' kd' pl' s' a' c' s1' v1' a1' nm' nc' ns', LI (t + 1) n' kd' pl' s' a' c' s1' a1' nc' ns' → pm_E (some (L, xs)) 11 pm_mm0 779 [(0, .retAddr 0), (1, .ref 0), (2, .ref 18), (3, .int (iI i))] [] (ch n' kd' pl' s' a' c' (mc s1' v1' a1' nm')) nc' ns' Q) : pm_E (some (L, xs)) 11 pm_mm0 430 [(0, .retAddr 0), (1, .ref 0), (2, .ref 18), (3, .int (iI i))] [] (ch n kd pl s a c (mc s1 v1 a1 nm)) nc ns Q := by
  obtain ⟨⟨hW, hn50, hq50⟩, hS, hf, ⟨h4, h4'⟩, hb, ⟨ho0, ho1⟩, ⟨h14, h14'⟩, hA, hY⟩ := id hc
  have hp0 : pl 0 = 0 := hW.2.2.2.2.2.2
  obtain ⟨hsh, m4, m3, m45, m45', mt⟩ := id hm
  obtain ⟨hN0, hN32, hT⟩ := id hok
  have s0 : s 0 = N := hS.1
  have m0 : s1 0 = N := hsh.1
  refine pm_e_sim pm_a0_430 rfl ?_
  show pm_E _ _ _ 431 [(0, .retAddr 0), (1, .ref 0), (2, .ref 18), (3, .int (iI i))] [.ref 0] _ _ _ _
  refine pm_e_sim pm_a0_431 rfl ?_
  show pm_E _ _ _ 432 [(0, .retAddr 0), (1, .ref 0), (2, .ref 18), (3, .int (iI i))] [.retAddr 0, .ref 0] _ _ _ _
  refine pm_e_sim pm_a0_432 rfl ?_
  show pm_E _ _ _ 433 [(0, .retAddr 0), (1, .ref 0), (2, .ref 18), (3, .int (iI i))] [.int (iI i), .retAddr 0, .ref 0] _ _ _ _
  refine pm_e_sim pm_a0_433 rfl ?_
  refine pm_e_top (y := iI 1) (by decide +kernel) ?_
  show pm_E _ _ _ 434 [(0, .retAddr 0), (1, .ref 0), (2, .ref 18), (3, .int (iI i))] [.int (iI 1), .int (iI i), .retAddr 0, .ref 0] _ _ _ _
  refine pm_e_sim pm_a0_434 rfl ?_
  refine pm_e_top (y := iI (i + 1)) (iI_add _ _) ?_
  show pm_E _ _ _ 435 [(0, .retAddr 0), (1, .ref 0), (2, .ref 18), (3, .int (iI i))] [.int (iI (i + 1)), .retAddr 0, .ref 0] _ _ _ _
  refine pm_e_sld (j := (i + 1).toNat) pm_a0_435 (pm_ix_I (by omega) (by omega) ⟨by omega, by omega⟩) ?_
  refine pm_e_top (y := iI (xv xs i 1)) (iI_of _).symm ?_
  show pm_E _ _ _ 436 [(0, .retAddr 0), (1, .ref 0), (2, .ref 18), (3, .int (iI i))] [.int (iI (xv xs i 1)), .ref 0] _ _ _ _
  refine pm_e_sim pm_a0_436 rfl ?_
  show pm_E _ _ _ 437 [(0, .retAddr 0), (1, .ref 0), (2, .ref 18), (3, .int (iI i))] [.retAddr 0, .int (iI (xv xs i 1)), .ref 0] _ _ _ _
  refine pm_e_sim pm_a0_437 rfl ?_
  show pm_E _ _ _ 438 [(0, .retAddr 0), (1, .ref 0), (2, .ref 18), (3, .int (iI i))] [.int (iI i), .retAddr 0, .int (iI (xv xs i 1)), .ref 0] _ _ _ _
  refine pm_e_sim pm_a0_438 rfl ?_
  refine pm_e_top (y := iI 2) (by decide +kernel) ?_
  show pm_E _ _ _ 439 [(0, .retAddr 0), (1, .ref 0), (2, .ref 18), (3, .int (iI i))] [.int (iI 2), .int (iI i), .retAddr 0, .int (iI (xv xs i 1)), .ref 0] _ _ _ _
  refine pm_e_sim pm_a0_439 rfl ?_
  refine pm_e_top (y := iI (i + 2)) (iI_add _ _) ?_
  show pm_E _ _ _ 440 [(0, .retAddr 0), (1, .ref 0), (2, .ref 18), (3, .int (iI i))] [.int (iI (i + 2)), .retAddr 0, .int (iI (xv xs i 1)), .ref 0] _ _ _ _
  refine pm_e_sld (j := (i + 2).toNat) pm_a0_440 (pm_ix_I (by omega) (by omega) ⟨by omega, by omega⟩) ?_
  refine pm_e_top (y := iI (xv xs i 2)) (iI_of _).symm ?_
  show pm_E _ _ _ 441 [(0, .retAddr 0), (1, .ref 0), (2, .ref 18), (3, .int (iI i))] [.int (iI (xv xs i 2)), .int (iI (xv xs i 1)), .ref 0] _ _ _ _
  refine pm_i_callv (k := 0) (T2 := pm_mm63) pm_a0_441 rfl rfl rfl (cg0 hW) ⟨Nat.le_of_ble_eq_true rfl, Nat.le_of_ble_eq_true rfl, rfl, by decide +kernel⟩ ?_
  show pm_E none _ _ 0 ((0, .ref 0) :: [(1, .int (iI (xv xs i 1))), (2, .int (iI (xv xs i 2)))]) [] _ _ _ _
  refine pm_e_lv0 hp0 ?_
  refine C_step hW hS hT xv_in xv_in (hin 1) ho1 (fun z => ?_) (fun x0 x1 w0 w1 a' c' r l' f g o1 hl hl5 hst => ?_)
  · skip
    show pm_E _ _ _ 444 [(0, .retAddr 0), (1, .ref 0), (2, .ref 18), (3, .int (iI i))] [.int (iI (-1))] _ _ _ _
    refine pm_e_sim pm_a0_444 rfl ?_
    show pm_E _ _ _ 445 [(0, .retAddr 0), (1, .ref 0), (2, .ref 18), (3, .int (iI i))] [] _ _ _ _
    exact LM_step_b hi0 hi6 hL hok hc hm hin1 (by omega) (by omega) z k
  · skip
    show pm_E _ _ _ 444 [(0, .retAddr 0), (1, .ref 0), (2, .ref 18), (3, .int (iI i))] [.int (iI r)] _ _ _ _
    refine pm_e_sim pm_a0_444 rfl ?_
    show pm_E _ _ _ 445 [(0, .retAddr 0), (1, .ref 0), (2, .ref 18), (3, .int (iI i))] [] _ _ _ _
    have ea := f.1 0 (by decide) (by decide)
    exact LM_step_k hi0 hi6 hL hok (cI_st (s' := s) (a' := a') hc x0 x1 g o1 hl rfl rfl rfl ea) hsh m4 (m3.trans ea.symm) x0 x1 w0 w1 hst m45 m45' mt hin1 (by omega) (by omega) k
set_option maxHeartbeats 4000000 in
set_option maxRecDepth 100000 in
theorem LM_steps_b {L : Nat} {xs : Nat → Int32} {t n nc ns : Nat} {kd pl : Nat → Nat} {s : Nat → Int} {a : Nat → Int → Int} {c : Nat → cdt} {s1 : Nat → Int} {v1 : Int64} {a1 : Nat → Int → Int} {nm : Nat → Int64} {N i : Int} {T : Int → List Int} {Q : Option Value → List va_E → Nat → Nat → Prop} (hi0 : 0 ≤ i) (hi6 : i + 6 ≤ L) (hL : L ≤ 3072) (hok : okT N T) (hc : cI n kd pl s a c N T) (hm : mI s a s1 a1 N T) (hin1 : ∀ i j, in32 (a1 i j)) (hnc : nc ≤ 50 + 12 * (t + 1)) (hns : ns ≤ 194358 + 503 * (t + 1) + wt pl) (hx : (xv xs i 1) < 0 ∨ N ≤ (xv xs i 1) ∨ (xv xs i 2) < 0 ∨ 3 < (xv xs i 2) ∨ (xv xs i 3) < 0 ∨ 200 < (xv xs i 3)) (k : ∀ n' kd' pl' s' a' c' s1' v1' a1' nm' nc' ns', LI (t + 1) n' kd' pl' s' a' c' s1' a1' nc' ns' → pm_E (some (L, xs)) 11 pm_mm0 779 [(0, .retAddr 0), (1, .ref 0), (2, .ref 18), (3, .int (iI i))] [] (ch n' kd' pl' s' a' c' (mc s1' v1' a1' nm')) nc' ns' Q) : pm_E (some (L, xs)) 11 pm_mm0 483 [(0, .retAddr 0), (1, .ref 0), (2, .ref 18), (3, .int (iI i))] [] (ch n kd pl s a c (mc s1 v1 a1 nm)) nc ns Q := by
  obtain ⟨⟨hW, hn50, hq50⟩, hS, hf, ⟨h4, h4'⟩, hb, ⟨ho0, ho1⟩, ⟨h14, h14'⟩, hA, hY⟩ := id hc
  have hp0 : pl 0 = 0 := hW.2.2.2.2.2.2
  obtain ⟨hsh, m4, m3, m45, m45', mt⟩ := id hm
  obtain ⟨hN0, hN32, hT⟩ := id hok
  have s0 : s 0 = N := hS.1
  have m0 : s1 0 = N := hsh.1
  refine pm_e_sim pm_a0_483 rfl ?_
  show pm_E _ _ _ 484 [(0, .retAddr 0), (1, .ref 0), (2, .ref 18), (3, .int (iI i))] [.ref 18] _ _ _ _
  refine pm_e_sim pm_a0_484 rfl ?_
  show pm_E _ _ _ 485 [(0, .retAddr 0), (1, .ref 0), (2, .ref 18), (3, .int (iI i))] [.retAddr 0, .ref 18] _ _ _ _
  refine pm_e_sim pm_a0_485 rfl ?_
  show pm_E _ _ _ 486 [(0, .retAddr 0), (1, .ref 0), (2, .ref 18), (3, .int (iI i))] [.int (iI i), .retAddr 0, .ref 18] _ _ _ _
  refine pm_e_sim pm_a0_486 rfl ?_
  refine pm_e_top (y := iI 1) (by decide +kernel) ?_
  show pm_E _ _ _ 487 [(0, .retAddr 0), (1, .ref 0), (2, .ref 18), (3, .int (iI i))] [.int (iI 1), .int (iI i), .retAddr 0, .ref 18] _ _ _ _
  refine pm_e_sim pm_a0_487 rfl ?_
  refine pm_e_top (y := iI (i + 1)) (iI_add _ _) ?_
  show pm_E _ _ _ 488 [(0, .retAddr 0), (1, .ref 0), (2, .ref 18), (3, .int (iI i))] [.int (iI (i + 1)), .retAddr 0, .ref 18] _ _ _ _
  refine pm_e_sld (j := (i + 1).toNat) pm_a0_488 (pm_ix_I (by omega) (by omega) ⟨by omega, by omega⟩) ?_
  refine pm_e_top (y := iI (xv xs i 1)) (iI_of _).symm ?_
  show pm_E _ _ _ 489 [(0, .retAddr 0), (1, .ref 0), (2, .ref 18), (3, .int (iI i))] [.int (iI (xv xs i 1)), .ref 18] _ _ _ _
  refine pm_e_sim pm_a0_489 rfl ?_
  show pm_E _ _ _ 490 [(0, .retAddr 0), (1, .ref 0), (2, .ref 18), (3, .int (iI i))] [.retAddr 0, .int (iI (xv xs i 1)), .ref 18] _ _ _ _
  refine pm_e_sim pm_a0_490 rfl ?_
  show pm_E _ _ _ 491 [(0, .retAddr 0), (1, .ref 0), (2, .ref 18), (3, .int (iI i))] [.int (iI i), .retAddr 0, .int (iI (xv xs i 1)), .ref 18] _ _ _ _
  refine pm_e_sim pm_a0_491 rfl ?_
  refine pm_e_top (y := iI 2) (by decide +kernel) ?_
  show pm_E _ _ _ 492 [(0, .retAddr 0), (1, .ref 0), (2, .ref 18), (3, .int (iI i))] [.int (iI 2), .int (iI i), .retAddr 0, .int (iI (xv xs i 1)), .ref 18] _ _ _ _
  refine pm_e_sim pm_a0_492 rfl ?_
  refine pm_e_top (y := iI (i + 2)) (iI_add _ _) ?_
  show pm_E _ _ _ 493 [(0, .retAddr 0), (1, .ref 0), (2, .ref 18), (3, .int (iI i))] [.int (iI (i + 2)), .retAddr 0, .int (iI (xv xs i 1)), .ref 18] _ _ _ _
  refine pm_e_sld (j := (i + 2).toNat) pm_a0_493 (pm_ix_I (by omega) (by omega) ⟨by omega, by omega⟩) ?_
  refine pm_e_top (y := iI (xv xs i 2)) (iI_of _).symm ?_
  show pm_E _ _ _ 494 [(0, .retAddr 0), (1, .ref 0), (2, .ref 18), (3, .int (iI i))] [.int (iI (xv xs i 2)), .int (iI (xv xs i 1)), .ref 18] _ _ _ _
  refine pm_e_sim pm_a0_494 rfl ?_
  show pm_E _ _ _ 495 [(0, .retAddr 0), (1, .ref 0), (2, .ref 18), (3, .int (iI i))] [.retAddr 0, .int (iI (xv xs i 2)), .int (iI (xv xs i 1)), .ref 18] _ _ _ _
  refine pm_e_sim pm_a0_495 rfl ?_
  show pm_E _ _ _ 496 [(0, .retAddr 0), (1, .ref 0), (2, .ref 18), (3, .int (iI i))] [.int (iI i), .retAddr 0, .int (iI (xv xs i 2)), .int (iI (xv xs i 1)), .ref 18] _ _ _ _
  refine pm_e_sim pm_a0_496 rfl ?_
  refine pm_e_top (y := iI 3) (by decide +kernel) ?_
  show pm_E _ _ _ 497 [(0, .retAddr 0), (1, .ref 0), (2, .ref 18), (3, .int (iI i))] [.int (iI 3), .int (iI i), .retAddr 0, .int (iI (xv xs i 2)), .int (iI (xv xs i 1)), .ref 18] _ _ _ _
  refine pm_e_sim pm_a0_497 rfl ?_
  refine pm_e_top (y := iI (i + 3)) (iI_add _ _) ?_
  show pm_E _ _ _ 498 [(0, .retAddr 0), (1, .ref 0), (2, .ref 18), (3, .int (iI i))] [.int (iI (i + 3)), .retAddr 0, .int (iI (xv xs i 2)), .int (iI (xv xs i 1)), .ref 18] _ _ _ _
  refine pm_e_sld (j := (i + 3).toNat) pm_a0_498 (pm_ix_I (by omega) (by omega) ⟨by omega, by omega⟩) ?_
  refine pm_e_top (y := iI (xv xs i 3)) (iI_of _).symm ?_
  show pm_E _ _ _ 499 [(0, .retAddr 0), (1, .ref 0), (2, .ref 18), (3, .int (iI i))] [.int (iI (xv xs i 3)), .int (iI (xv xs i 2)), .int (iI (xv xs i 1)), .ref 18] _ _ _ _
  rw [ch_mh hW hn50 hq50]
  refine pm_i_callv (k := 18) (T2 := pm_mm189) pm_a0_499 rfl rfl rfl (mh_get (j := 0) kA18_len rfl) ⟨Nat.le_of_ble_eq_true rfl, Nat.le_of_ble_eq_true rfl, rfl, by decide +kernel⟩ ?_
  show pm_E none _ _ 0 [(0, .ref 18), (1, .int (iI (xv xs i 1))), (2, .int (iI (xv xs i 2))), (3, .int (iI (xv xs i 3)))] [] _ _ _ _
  refine M_steps_b kA18_len hin1 hok hsh xv_in xv_in xv_in hx ?_
  · skip
    rw [← ch_mh hW hn50 hq50]
    show pm_E _ _ _ 502 [(0, .retAddr 0), (1, .ref 0), (2, .ref 18), (3, .int (iI i))] [.int (iI (-1))] _ _ _ _
    refine pm_e_sim pm_a0_502 rfl ?_
    show pm_E _ _ _ 503 [(0, .retAddr 0), (1, .ref 0), (2, .ref 18), (3, .int (iI i))] [] _ _ _ _
    refine pm_e_goto pm_a0_503 rfl ?_
    show pm_E _ _ _ 779 [(0, .retAddr 0), (1, .ref 0), (2, .ref 18), (3, .int (iI i))] [] _ _ _ _
    exact k _ _ _ _ _ _ _ _ _ _ _ _ ⟨N, T, hok, hc, hm, by omega, by omega⟩
set_option maxHeartbeats 4000000 in
set_option maxRecDepth 100000 in
theorem LM_steps_k {L : Nat} {xs : Nat → Int32} {t n nc ns : Nat} {kd pl : Nat → Nat} {s : Nat → Int} {a : Nat → Int → Int} {c : Nat → cdt} {s1 : Nat → Int} {v1 : Int64} {a1 : Nat → Int → Int} {nm : Nat → Int64} {N i : Int} {T : Int → List Int} {Q : Option Value → List va_E → Nat → Nat → Prop} {l : List Int} {r0 : Int} (hi0 : 0 ≤ i) (hi6 : i + 6 ≤ L) (hL : L ≤ 3072) (hok : okT N T) (hc : cI n kd pl s a c N (upT T (xv xs i 1) l)) (hsh : sh s1 a1 N T) (e4 : s1 4 = s 4) (e0 : a1 3 = a 0) (x0 : 0 ≤ (xv xs i 1)) (x1 : (xv xs i 1) < N) (x2 : 0 ≤ (xv xs i 2)) (x3 : (xv xs i 2) ≤ 3) (x4 : 0 ≤ (xv xs i 3)) (x5 : (xv xs i 3) ≤ 200) (hst : stx (xv xs i 2) ((xv xs i 3)).toNat 0 (T (xv xs i 1)) r0 (s 2) (s 3) l) (m45 : 0 ≤ s1 45) (m45' : s1 45 ≤ 500) (mf : s1 13 = s 1 ∧ in32 (s1 13)) (hin1 : ∀ i j, in32 (a1 i j)) (hnc : nc ≤ 50 + 12 * (t + 1)) (hns : ns ≤ 194358 + 503 * (t + 1) + wt pl) (k : ∀ n' kd' pl' s' a' c' s1' v1' a1' nm' nc' ns', LI (t + 1) n' kd' pl' s' a' c' s1' a1' nc' ns' → pm_E (some (L, xs)) 11 pm_mm0 779 [(0, .retAddr 0), (1, .ref 0), (2, .ref 18), (3, .int (iI i))] [] (ch n' kd' pl' s' a' c' (mc s1' v1' a1' nm')) nc' ns' Q) : pm_E (some (L, xs)) 11 pm_mm0 483 [(0, .retAddr 0), (1, .ref 0), (2, .ref 18), (3, .int (iI i))] [] (ch n kd pl s a c (mc s1 v1 a1 nm)) nc ns Q := by
  obtain ⟨⟨hW, hn50, hq50⟩, hS, hf, ⟨h4, h4'⟩, hb, ⟨ho0, ho1⟩, ⟨h14, h14'⟩, hA, hY⟩ := id hc
  have hp0 : pl 0 = 0 := hW.2.2.2.2.2.2
  obtain ⟨hN0, hN32, hT⟩ := id hok
  obtain ⟨y1, F, y2⟩ := hT _ x0 x1
  refine pm_e_sim pm_a0_483 rfl ?_
  show pm_E _ _ _ 484 [(0, .retAddr 0), (1, .ref 0), (2, .ref 18), (3, .int (iI i))] [.ref 18] _ _ _ _
  refine pm_e_sim pm_a0_484 rfl ?_
  show pm_E _ _ _ 485 [(0, .retAddr 0), (1, .ref 0), (2, .ref 18), (3, .int (iI i))] [.retAddr 0, .ref 18] _ _ _ _
  refine pm_e_sim pm_a0_485 rfl ?_
  show pm_E _ _ _ 486 [(0, .retAddr 0), (1, .ref 0), (2, .ref 18), (3, .int (iI i))] [.int (iI i), .retAddr 0, .ref 18] _ _ _ _
  refine pm_e_sim pm_a0_486 rfl ?_
  refine pm_e_top (y := iI 1) (by decide +kernel) ?_
  show pm_E _ _ _ 487 [(0, .retAddr 0), (1, .ref 0), (2, .ref 18), (3, .int (iI i))] [.int (iI 1), .int (iI i), .retAddr 0, .ref 18] _ _ _ _
  refine pm_e_sim pm_a0_487 rfl ?_
  refine pm_e_top (y := iI (i + 1)) (iI_add _ _) ?_
  show pm_E _ _ _ 488 [(0, .retAddr 0), (1, .ref 0), (2, .ref 18), (3, .int (iI i))] [.int (iI (i + 1)), .retAddr 0, .ref 18] _ _ _ _
  refine pm_e_sld (j := (i + 1).toNat) pm_a0_488 (pm_ix_I (by omega) (by omega) ⟨by omega, by omega⟩) ?_
  refine pm_e_top (y := iI (xv xs i 1)) (iI_of _).symm ?_
  show pm_E _ _ _ 489 [(0, .retAddr 0), (1, .ref 0), (2, .ref 18), (3, .int (iI i))] [.int (iI (xv xs i 1)), .ref 18] _ _ _ _
  refine pm_e_sim pm_a0_489 rfl ?_
  show pm_E _ _ _ 490 [(0, .retAddr 0), (1, .ref 0), (2, .ref 18), (3, .int (iI i))] [.retAddr 0, .int (iI (xv xs i 1)), .ref 18] _ _ _ _
  refine pm_e_sim pm_a0_490 rfl ?_
  show pm_E _ _ _ 491 [(0, .retAddr 0), (1, .ref 0), (2, .ref 18), (3, .int (iI i))] [.int (iI i), .retAddr 0, .int (iI (xv xs i 1)), .ref 18] _ _ _ _
  refine pm_e_sim pm_a0_491 rfl ?_
  refine pm_e_top (y := iI 2) (by decide +kernel) ?_
  show pm_E _ _ _ 492 [(0, .retAddr 0), (1, .ref 0), (2, .ref 18), (3, .int (iI i))] [.int (iI 2), .int (iI i), .retAddr 0, .int (iI (xv xs i 1)), .ref 18] _ _ _ _
  refine pm_e_sim pm_a0_492 rfl ?_
  refine pm_e_top (y := iI (i + 2)) (iI_add _ _) ?_
  show pm_E _ _ _ 493 [(0, .retAddr 0), (1, .ref 0), (2, .ref 18), (3, .int (iI i))] [.int (iI (i + 2)), .retAddr 0, .int (iI (xv xs i 1)), .ref 18] _ _ _ _
  refine pm_e_sld (j := (i + 2).toNat) pm_a0_493 (pm_ix_I (by omega) (by omega) ⟨by omega, by omega⟩) ?_
  refine pm_e_top (y := iI (xv xs i 2)) (iI_of _).symm ?_
  show pm_E _ _ _ 494 [(0, .retAddr 0), (1, .ref 0), (2, .ref 18), (3, .int (iI i))] [.int (iI (xv xs i 2)), .int (iI (xv xs i 1)), .ref 18] _ _ _ _
  refine pm_e_sim pm_a0_494 rfl ?_
  show pm_E _ _ _ 495 [(0, .retAddr 0), (1, .ref 0), (2, .ref 18), (3, .int (iI i))] [.retAddr 0, .int (iI (xv xs i 2)), .int (iI (xv xs i 1)), .ref 18] _ _ _ _
  refine pm_e_sim pm_a0_495 rfl ?_
  show pm_E _ _ _ 496 [(0, .retAddr 0), (1, .ref 0), (2, .ref 18), (3, .int (iI i))] [.int (iI i), .retAddr 0, .int (iI (xv xs i 2)), .int (iI (xv xs i 1)), .ref 18] _ _ _ _
  refine pm_e_sim pm_a0_496 rfl ?_
  refine pm_e_top (y := iI 3) (by decide +kernel) ?_
  show pm_E _ _ _ 497 [(0, .retAddr 0), (1, .ref 0), (2, .ref 18), (3, .int (iI i))] [.int (iI 3), .int (iI i), .retAddr 0, .int (iI (xv xs i 2)), .int (iI (xv xs i 1)), .ref 18] _ _ _ _
  refine pm_e_sim pm_a0_497 rfl ?_
  refine pm_e_top (y := iI (i + 3)) (iI_add _ _) ?_
  show pm_E _ _ _ 498 [(0, .retAddr 0), (1, .ref 0), (2, .ref 18), (3, .int (iI i))] [.int (iI (i + 3)), .retAddr 0, .int (iI (xv xs i 2)), .int (iI (xv xs i 1)), .ref 18] _ _ _ _
  refine pm_e_sld (j := (i + 3).toNat) pm_a0_498 (pm_ix_I (by omega) (by omega) ⟨by omega, by omega⟩) ?_
  refine pm_e_top (y := iI (xv xs i 3)) (iI_of _).symm ?_
  show pm_E _ _ _ 499 [(0, .retAddr 0), (1, .ref 0), (2, .ref 18), (3, .int (iI i))] [.int (iI (xv xs i 3)), .int (iI (xv xs i 2)), .int (iI (xv xs i 1)), .ref 18] _ _ _ _
  rw [ch_mh hW hn50 hq50]
  refine pm_i_callv (k := 18) (T2 := pm_mm189) pm_a0_499 rfl rfl rfl (mh_get (j := 0) kA18_len rfl) ⟨Nat.le_of_ble_eq_true rfl, Nat.le_of_ble_eq_true rfl, rfl, by decide +kernel⟩ ?_
  show pm_E none _ _ 0 [(0, .ref 18), (1, .int (iI (xv xs i 1))), (2, .int (iI (xv xs i 2))), (3, .int (iI (xv xs i 3)))] [] _ _ _ _
  refine M_steps kA18_len hin1 hok hsh xv_in xv_in xv_in (fun z => absurd z (by omega)) (fun r l' s1' a1' _ z f0 f4 f3 => ?_)
  · skip
    rw [← ch_mh hW hn50 hq50]
    show pm_E _ _ _ 502 [(0, .retAddr 0), (1, .ref 0), (2, .ref 18), (3, .int (iI i))] [.int (iI r)] _ _ _ _
    refine pm_e_sim pm_a0_502 rfl ?_
    show pm_E _ _ _ 503 [(0, .retAddr 0), (1, .ref 0), (2, .ref 18), (3, .int (iI i))] [] _ _ _ _
    refine pm_e_goto pm_a0_503 rfl ?_
    show pm_E _ _ _ 779 [(0, .retAddr 0), (1, .ref 0), (2, .ref 18), (3, .int (iI i))] [] _ _ _ _
    obtain ⟨_, e7, e6, e9⟩ := stx_one y1 y2 hst z
    subst e9
    obtain ⟨v1, v2, v3, v4⟩ := stx_b y1 y2 (Int.le_refl 0) (by omega) hst
    obtain ⟨w1, F', w2⟩ := sts_ok y1 y2 (stx_sts hst)
    exact k _ _ _ _ _ _ _ _ _ _ _ _ ⟨N, _, okT_up hok w1 w2, hc, ⟨f0, f4.1.trans e4, f3.trans e0, by omega, by omega, ⟨e7, e6, by rw [e7]; exact ⟨by omega, by omega⟩, by rw [e6]; exact ⟨by omega, by omega⟩⟩, f4.2.2.trans mf.1, by rw [f4.2.2]; exact mf.2⟩, by omega, by omega⟩
set_option maxHeartbeats 4000000 in
set_option maxRecDepth 100000 in
theorem LC_steps0 {L : Nat} {xs : Nat → Int32} {t n nc ns : Nat} {kd pl : Nat → Nat} {s : Nat → Int} {a : Nat → Int → Int} {c : Nat → cdt} {s1 : Nat → Int} {v1 : Int64} {a1 : Nat → Int → Int} {nm : Nat → Int64} {N i : Int} {T : Int → List Int} {Q : Option Value → List va_E → Nat → Nat → Prop} (hi0 : 0 ≤ i) (hi6 : i + 6 ≤ L) (hL : L ≤ 3072) (hok : okT N T) (hc : cI n kd pl s a c N T) (hm : mI s a s1 a1 N T) (hs : ∀ i, in32 (s i)) (hin : ∀ i j, in32 (a i j)) (hin1 : ∀ i j, in32 (a1 i j)) (hnc : nc ≤ 50 + 12 * t) (hns : ns ≤ 194358 + 503 * t + wt pl) (hm200 : (xv xs i 3) ≤ 200) (k : ∀ n' kd' pl' s' a' c' s1' v1' a1' nm' nc' ns', LI (t + 1) n' kd' pl' s' a' c' s1' a1' nc' ns' → pm_E (some (L, xs)) 11 pm_mm0 779 [(0, .retAddr 0), (1, .ref 0), (2, .ref 18), (3, .int (iI i))] [] (ch n' kd' pl' s' a' c' (mc s1' v1' a1' nm')) nc' ns' Q) : pm_E (some (L, xs)) 11 pm_mm0 463 [(0, .retAddr 0), (1, .ref 0), (2, .ref 18), (3, .int (iI i))] [] (ch n kd pl s a c (mc s1 v1 a1 nm)) nc ns Q := by
  obtain ⟨⟨hW, hn50, hq50⟩, hS, hf, ⟨h4, h4'⟩, hb, ⟨ho0, ho1⟩, ⟨h14, h14'⟩, hA, hY⟩ := id hc
  have hp0 : pl 0 = 0 := hW.2.2.2.2.2.2
  obtain ⟨hsh, m4, m3, m45, m45', mt⟩ := id hm
  obtain ⟨hN0, hN32, hT⟩ := id hok
  have s0 : s 0 = N := hS.1
  have m0 : s1 0 = N := hsh.1
  refine pm_e_sim pm_a0_463 rfl ?_
  show pm_E _ _ _ 464 [(0, .retAddr 0), (1, .ref 0), (2, .ref 18), (3, .int (iI i))] [.ref 0] _ _ _ _
  refine pm_e_sim pm_a0_464 rfl ?_
  show pm_E _ _ _ 465 [(0, .retAddr 0), (1, .ref 0), (2, .ref 18), (3, .int (iI i))] [.retAddr 0, .ref 0] _ _ _ _
  refine pm_e_sim pm_a0_465 rfl ?_
  show pm_E _ _ _ 466 [(0, .retAddr 0), (1, .ref 0), (2, .ref 18), (3, .int (iI i))] [.int (iI i), .retAddr 0, .ref 0] _ _ _ _
  refine pm_e_sim pm_a0_466 rfl ?_
  refine pm_e_top (y := iI 1) (by decide +kernel) ?_
  show pm_E _ _ _ 467 [(0, .retAddr 0), (1, .ref 0), (2, .ref 18), (3, .int (iI i))] [.int (iI 1), .int (iI i), .retAddr 0, .ref 0] _ _ _ _
  refine pm_e_sim pm_a0_467 rfl ?_
  refine pm_e_top (y := iI (i + 1)) (iI_add _ _) ?_
  show pm_E _ _ _ 468 [(0, .retAddr 0), (1, .ref 0), (2, .ref 18), (3, .int (iI i))] [.int (iI (i + 1)), .retAddr 0, .ref 0] _ _ _ _
  refine pm_e_sld (j := (i + 1).toNat) pm_a0_468 (pm_ix_I (by omega) (by omega) ⟨by omega, by omega⟩) ?_
  refine pm_e_top (y := iI (xv xs i 1)) (iI_of _).symm ?_
  show pm_E _ _ _ 469 [(0, .retAddr 0), (1, .ref 0), (2, .ref 18), (3, .int (iI i))] [.int (iI (xv xs i 1)), .ref 0] _ _ _ _
  refine pm_e_sim pm_a0_469 rfl ?_
  show pm_E _ _ _ 470 [(0, .retAddr 0), (1, .ref 0), (2, .ref 18), (3, .int (iI i))] [.retAddr 0, .int (iI (xv xs i 1)), .ref 0] _ _ _ _
  refine pm_e_sim pm_a0_470 rfl ?_
  show pm_E _ _ _ 471 [(0, .retAddr 0), (1, .ref 0), (2, .ref 18), (3, .int (iI i))] [.int (iI i), .retAddr 0, .int (iI (xv xs i 1)), .ref 0] _ _ _ _
  refine pm_e_sim pm_a0_471 rfl ?_
  refine pm_e_top (y := iI 2) (by decide +kernel) ?_
  show pm_E _ _ _ 472 [(0, .retAddr 0), (1, .ref 0), (2, .ref 18), (3, .int (iI i))] [.int (iI 2), .int (iI i), .retAddr 0, .int (iI (xv xs i 1)), .ref 0] _ _ _ _
  refine pm_e_sim pm_a0_472 rfl ?_
  refine pm_e_top (y := iI (i + 2)) (iI_add _ _) ?_
  show pm_E _ _ _ 473 [(0, .retAddr 0), (1, .ref 0), (2, .ref 18), (3, .int (iI i))] [.int (iI (i + 2)), .retAddr 0, .int (iI (xv xs i 1)), .ref 0] _ _ _ _
  refine pm_e_sld (j := (i + 2).toNat) pm_a0_473 (pm_ix_I (by omega) (by omega) ⟨by omega, by omega⟩) ?_
  refine pm_e_top (y := iI (xv xs i 2)) (iI_of _).symm ?_
  show pm_E _ _ _ 474 [(0, .retAddr 0), (1, .ref 0), (2, .ref 18), (3, .int (iI i))] [.int (iI (xv xs i 2)), .int (iI (xv xs i 1)), .ref 0] _ _ _ _
  refine pm_e_sim pm_a0_474 rfl ?_
  show pm_E _ _ _ 475 [(0, .retAddr 0), (1, .ref 0), (2, .ref 18), (3, .int (iI i))] [.retAddr 0, .int (iI (xv xs i 2)), .int (iI (xv xs i 1)), .ref 0] _ _ _ _
  refine pm_e_sim pm_a0_475 rfl ?_
  show pm_E _ _ _ 476 [(0, .retAddr 0), (1, .ref 0), (2, .ref 18), (3, .int (iI i))] [.int (iI i), .retAddr 0, .int (iI (xv xs i 2)), .int (iI (xv xs i 1)), .ref 0] _ _ _ _
  refine pm_e_sim pm_a0_476 rfl ?_
  refine pm_e_top (y := iI 3) (by decide +kernel) ?_
  show pm_E _ _ _ 477 [(0, .retAddr 0), (1, .ref 0), (2, .ref 18), (3, .int (iI i))] [.int (iI 3), .int (iI i), .retAddr 0, .int (iI (xv xs i 2)), .int (iI (xv xs i 1)), .ref 0] _ _ _ _
  refine pm_e_sim pm_a0_477 rfl ?_
  refine pm_e_top (y := iI (i + 3)) (iI_add _ _) ?_
  show pm_E _ _ _ 478 [(0, .retAddr 0), (1, .ref 0), (2, .ref 18), (3, .int (iI i))] [.int (iI (i + 3)), .retAddr 0, .int (iI (xv xs i 2)), .int (iI (xv xs i 1)), .ref 0] _ _ _ _
  refine pm_e_sld (j := (i + 3).toNat) pm_a0_478 (pm_ix_I (by omega) (by omega) ⟨by omega, by omega⟩) ?_
  refine pm_e_top (y := iI (xv xs i 3)) (iI_of _).symm ?_
  show pm_E _ _ _ 479 [(0, .retAddr 0), (1, .ref 0), (2, .ref 18), (3, .int (iI i))] [.int (iI (xv xs i 3)), .int (iI (xv xs i 2)), .int (iI (xv xs i 1)), .ref 0] _ _ _ _
  refine pm_i_callv (k := 0) (T2 := pm_mm87) pm_a0_479 rfl rfl rfl (cg0 hW) ⟨Nat.le_of_ble_eq_true rfl, Nat.le_of_ble_eq_true rfl, rfl, by decide +kernel⟩ ?_
  show pm_E none _ _ 0 ((0, .ref 0) :: [(1, .int (iI (xv xs i 1))), (2, .int (iI (xv xs i 2))), (3, .int (iI (xv xs i 3)))]) [] _ _ _ _
  refine pm_e_lv0 hp0 ?_
  refine C_steps hW hS hT xv_in xv_in xv_in (hin 1) ho1 (fun z => ?_) (fun x0 x1 w0 w1 m0' s' a' c' r l' fs f g o1 hl hl5 hst => ?_)
  · skip
    show pm_E _ _ _ 482 [(0, .retAddr 0), (1, .ref 0), (2, .ref 18), (3, .int (iI i))] [.int (iI (-1))] _ _ _ _
    refine pm_e_sim pm_a0_482 rfl ?_
    show pm_E _ _ _ 483 [(0, .retAddr 0), (1, .ref 0), (2, .ref 18), (3, .int (iI i))] [] _ _ _ _
    exact LM_steps_b hi0 hi6 hL hok hc hm hin1 (by omega) (by omega) z k
  · skip
    show pm_E _ _ _ 482 [(0, .retAddr 0), (1, .ref 0), (2, .ref 18), (3, .int (iI i))] [.int (iI r)] _ _ _ _
    refine pm_e_sim pm_a0_482 rfl ?_
    show pm_E _ _ _ 483 [(0, .retAddr 0), (1, .ref 0), (2, .ref 18), (3, .int (iI i))] [] _ _ _ _
    have ea := f.1 0 (by decide) (by decide)
    exact LM_steps_k hi0 hi6 hL hok (cI_st (s' := s') (a' := a') hc x0 x1 g o1 hl (fs 0 (by decide) (by decide)) (fs 4 (by decide) (by decide)) (fs 14 (by decide) (by decide)) ea) hsh (m4.trans (fs 4 (by decide) (by decide)).symm) (m3.trans ea.symm) x0 x1 w0 w1 m0' hm200 hst m45 m45' ⟨mt.2.1.trans (fs 1 (by decide) (by decide)).symm, mt.2.2⟩ hin1 (by omega) (by omega) k
set_option maxHeartbeats 4000000 in
set_option maxRecDepth 100000 in
theorem LM_abs_b {L : Nat} {xs : Nat → Int32} {t n nc ns : Nat} {kd pl : Nat → Nat} {s : Nat → Int} {a : Nat → Int → Int} {c : Nat → cdt} {s1 : Nat → Int} {v1 : Int64} {a1 : Nat → Int → Int} {nm : Nat → Int64} {N i : Int} {T : Int → List Int} {Q : Option Value → List va_E → Nat → Nat → Prop} (hi0 : 0 ≤ i) (hi6 : i + 6 ≤ L) (hL : L ≤ 3072) (hok : okT N T) (hc : cI n kd pl s a c N T) (hm : mI s a s1 a1 N T) (hin1 : ∀ i j, in32 (a1 i j)) (hnc : nc ≤ 50 + 12 * (t + 1)) (hns : ns ≤ 194358 + 503 * (t + 1) + wt pl) (hx : (xv xs i 1) < 0 ∨ N ≤ (xv xs i 1) ∨ N = 32) (k : ∀ n' kd' pl' s' a' c' s1' v1' a1' nm' nc' ns', LI (t + 1) n' kd' pl' s' a' c' s1' a1' nc' ns' → pm_E (some (L, xs)) 11 pm_mm0 779 [(0, .retAddr 0), (1, .ref 0), (2, .ref 18), (3, .int (iI i))] [] (ch n' kd' pl' s' a' c' (mc s1' v1' a1' nm')) nc' ns' Q) : pm_E (some (L, xs)) 11 pm_mm0 595 [(0, .retAddr 0), (1, .ref 0), (2, .ref 18), (3, .int (iI i))] [] (ch n kd pl s a c (mc s1 v1 a1 nm)) nc ns Q := by
  obtain ⟨⟨hW, hn50, hq50⟩, hS, hf, ⟨h4, h4'⟩, hb, ⟨ho0, ho1⟩, ⟨h14, h14'⟩, hA, hY⟩ := id hc
  have hp0 : pl 0 = 0 := hW.2.2.2.2.2.2
  obtain ⟨hsh, m4, m3, m45, m45', mt⟩ := id hm
  obtain ⟨hN0, hN32, hT⟩ := id hok
  have s0 : s 0 = N := hS.1
  have m0 : s1 0 = N := hsh.1
  refine pm_e_sim pm_a0_595 rfl ?_
  show pm_E _ _ _ 596 [(0, .retAddr 0), (1, .ref 0), (2, .ref 18), (3, .int (iI i))] [.ref 18] _ _ _ _
  refine pm_e_sim pm_a0_596 rfl ?_
  show pm_E _ _ _ 597 [(0, .retAddr 0), (1, .ref 0), (2, .ref 18), (3, .int (iI i))] [.retAddr 0, .ref 18] _ _ _ _
  refine pm_e_sim pm_a0_597 rfl ?_
  show pm_E _ _ _ 598 [(0, .retAddr 0), (1, .ref 0), (2, .ref 18), (3, .int (iI i))] [.int (iI i), .retAddr 0, .ref 18] _ _ _ _
  refine pm_e_sim pm_a0_598 rfl ?_
  refine pm_e_top (y := iI 1) (by decide +kernel) ?_
  show pm_E _ _ _ 599 [(0, .retAddr 0), (1, .ref 0), (2, .ref 18), (3, .int (iI i))] [.int (iI 1), .int (iI i), .retAddr 0, .ref 18] _ _ _ _
  refine pm_e_sim pm_a0_599 rfl ?_
  refine pm_e_top (y := iI (i + 1)) (iI_add _ _) ?_
  show pm_E _ _ _ 600 [(0, .retAddr 0), (1, .ref 0), (2, .ref 18), (3, .int (iI i))] [.int (iI (i + 1)), .retAddr 0, .ref 18] _ _ _ _
  refine pm_e_sld (j := (i + 1).toNat) pm_a0_600 (pm_ix_I (by omega) (by omega) ⟨by omega, by omega⟩) ?_
  refine pm_e_top (y := iI (xv xs i 1)) (iI_of _).symm ?_
  show pm_E _ _ _ 601 [(0, .retAddr 0), (1, .ref 0), (2, .ref 18), (3, .int (iI i))] [.int (iI (xv xs i 1)), .ref 18] _ _ _ _
  rw [ch_mh hW hn50 hq50]
  refine pm_i_callv (k := 18) (T2 := pm_mm194) pm_a0_601 rfl rfl rfl (mh_get (j := 0) kA18_len rfl) ⟨Nat.le_of_ble_eq_true rfl, Nat.le_of_ble_eq_true rfl, rfl, by decide +kernel⟩ ?_
  show pm_E none _ _ 0 [(0, .ref 18), (1, .int (iI (xv xs i 1)))] [] _ _ _ _
  refine M_abstracted kA18_len hin1 hok hsh xv_in (fun _ => ?_) (fun _ => ?_) (fun m z1 z2 z3 => absurd hx (by omega)) (fun l' m z1 z2 z3 => absurd hx (by omega))
  · skip
    rw [← ch_mh hW hn50 hq50]
    show pm_E _ _ _ 604 [(0, .retAddr 0), (1, .ref 0), (2, .ref 18), (3, .int (iI i))] [.int (iI (-1))] _ _ _ _
    refine pm_e_sim pm_a0_604 rfl ?_
    show pm_E _ _ _ 605 [(0, .retAddr 0), (1, .ref 0), (2, .ref 18), (3, .int (iI i))] [] _ _ _ _
    refine pm_e_goto pm_a0_605 rfl ?_
    show pm_E _ _ _ 779 [(0, .retAddr 0), (1, .ref 0), (2, .ref 18), (3, .int (iI i))] [] _ _ _ _
    exact k _ _ _ _ _ _ _ _ _ _ _ _ ⟨N, T, hok, hc, hm, by omega, by omega⟩
  · skip
    rw [← ch_mh hW hn50 hq50]
    show pm_E _ _ _ 604 [(0, .retAddr 0), (1, .ref 0), (2, .ref 18), (3, .int (iI i))] [.int (iI (-3))] _ _ _ _
    refine pm_e_sim pm_a0_604 rfl ?_
    show pm_E _ _ _ 605 [(0, .retAddr 0), (1, .ref 0), (2, .ref 18), (3, .int (iI i))] [] _ _ _ _
    refine pm_e_goto pm_a0_605 rfl ?_
    show pm_E _ _ _ 779 [(0, .retAddr 0), (1, .ref 0), (2, .ref 18), (3, .int (iI i))] [] _ _ _ _
    exact k _ _ _ _ _ _ _ _ _ _ _ _ ⟨N, T, hok, hc, hm, by omega, by omega⟩
set_option maxHeartbeats 4000000 in
set_option maxRecDepth 100000 in
theorem LM_abs_n {L : Nat} {xs : Nat → Int32} {t n nc ns : Nat} {kd pl : Nat → Nat} {s : Nat → Int} {a : Nat → Int → Int} {c : Nat → cdt} {s1 : Nat → Int} {v1 : Int64} {a1 : Nat → Int → Int} {nm : Nat → Int64} {N i : Int} {T : Int → List Int} {Q : Option Value → List va_E → Nat → Nat → Prop} {m0 : Nat} (hi0 : 0 ≤ i) (hi6 : i + 6 ≤ L) (hL : L ≤ 3072) (hok : okT N T) (hc : cI n kd pl s a c N T) (hm : mI s a s1 a1 N T) (hin1 : ∀ i j, in32 (a1 i j)) (hnc : nc ≤ 50 + 12 * (t + 1)) (hns : ns ≤ 194358 + 503 * (t + 1) + wt pl) (x0 : 0 ≤ (xv xs i 1)) (x1 : (xv xs i 1) < N) (hlt : N < 32) (hab : abR m0 (T (xv xs i 1)) none) (k : ∀ n' kd' pl' s' a' c' s1' v1' a1' nm' nc' ns', LI (t + 1) n' kd' pl' s' a' c' s1' a1' nc' ns' → pm_E (some (L, xs)) 11 pm_mm0 779 [(0, .retAddr 0), (1, .ref 0), (2, .ref 18), (3, .int (iI i))] [] (ch n' kd' pl' s' a' c' (mc s1' v1' a1' nm')) nc' ns' Q) : pm_E (some (L, xs)) 11 pm_mm0 595 [(0, .retAddr 0), (1, .ref 0), (2, .ref 18), (3, .int (iI i))] [] (ch n kd pl s a c (mc s1 v1 a1 nm)) nc ns Q := by
  obtain ⟨⟨hW, hn50, hq50⟩, hS, hf, ⟨h4, h4'⟩, hb, ⟨ho0, ho1⟩, ⟨h14, h14'⟩, hA, hY⟩ := id hc
  have hp0 : pl 0 = 0 := hW.2.2.2.2.2.2
  obtain ⟨hsh, m4, m3, m45, m45', mt⟩ := id hm
  obtain ⟨hN0, hN32, hT⟩ := id hok
  have s0 : s 0 = N := hS.1
  have m0 : s1 0 = N := hsh.1
  obtain ⟨y1, F, y2⟩ := hT _ x0 x1
  refine pm_e_sim pm_a0_595 rfl ?_
  show pm_E _ _ _ 596 [(0, .retAddr 0), (1, .ref 0), (2, .ref 18), (3, .int (iI i))] [.ref 18] _ _ _ _
  refine pm_e_sim pm_a0_596 rfl ?_
  show pm_E _ _ _ 597 [(0, .retAddr 0), (1, .ref 0), (2, .ref 18), (3, .int (iI i))] [.retAddr 0, .ref 18] _ _ _ _
  refine pm_e_sim pm_a0_597 rfl ?_
  show pm_E _ _ _ 598 [(0, .retAddr 0), (1, .ref 0), (2, .ref 18), (3, .int (iI i))] [.int (iI i), .retAddr 0, .ref 18] _ _ _ _
  refine pm_e_sim pm_a0_598 rfl ?_
  refine pm_e_top (y := iI 1) (by decide +kernel) ?_
  show pm_E _ _ _ 599 [(0, .retAddr 0), (1, .ref 0), (2, .ref 18), (3, .int (iI i))] [.int (iI 1), .int (iI i), .retAddr 0, .ref 18] _ _ _ _
  refine pm_e_sim pm_a0_599 rfl ?_
  refine pm_e_top (y := iI (i + 1)) (iI_add _ _) ?_
  show pm_E _ _ _ 600 [(0, .retAddr 0), (1, .ref 0), (2, .ref 18), (3, .int (iI i))] [.int (iI (i + 1)), .retAddr 0, .ref 18] _ _ _ _
  refine pm_e_sld (j := (i + 1).toNat) pm_a0_600 (pm_ix_I (by omega) (by omega) ⟨by omega, by omega⟩) ?_
  refine pm_e_top (y := iI (xv xs i 1)) (iI_of _).symm ?_
  show pm_E _ _ _ 601 [(0, .retAddr 0), (1, .ref 0), (2, .ref 18), (3, .int (iI i))] [.int (iI (xv xs i 1)), .ref 18] _ _ _ _
  rw [ch_mh hW hn50 hq50]
  refine pm_i_callv (k := 18) (T2 := pm_mm194) pm_a0_601 rfl rfl rfl (mh_get (j := 0) kA18_len rfl) ⟨Nat.le_of_ble_eq_true rfl, Nat.le_of_ble_eq_true rfl, rfl, by decide +kernel⟩ ?_
  show pm_E none _ _ 0 [(0, .ref 18), (1, .int (iI (xv xs i 1)))] [] _ _ _ _
  refine M_abstracted kA18_len hin1 hok hsh xv_in (fun z => absurd z (by omega)) (fun z => absurd z (by omega)) (fun m z1 z2 z3 z4 s1' a1' f0 f4 f1 f2 f3 => ?_) (fun l' m z1 z2 z3 z4 => by have := abR_one y2 hab z4; cases this)
  · skip
    rw [← ch_mh hW hn50 hq50]
    show pm_E _ _ _ 604 [(0, .retAddr 0), (1, .ref 0), (2, .ref 18), (3, .int (iI i))] [.int (iI (-3))] _ _ _ _
    refine pm_e_sim pm_a0_604 rfl ?_
    show pm_E _ _ _ 605 [(0, .retAddr 0), (1, .ref 0), (2, .ref 18), (3, .int (iI i))] [] _ _ _ _
    refine pm_e_goto pm_a0_605 rfl ?_
    show pm_E _ _ _ 779 [(0, .retAddr 0), (1, .ref 0), (2, .ref 18), (3, .int (iI i))] [] _ _ _ _
    exact k _ _ _ _ _ _ _ _ _ _ _ _ ⟨N, T, hok, hc, ⟨sh_fr hsh f0 f1 f2, f4.1.trans m4, f3.trans m3, by omega, by omega, tld_m mt f4.2.2.1 f4.2.2.2.1 f4.2.2.2.2⟩, by omega, by omega⟩
set_option maxHeartbeats 4000000 in
set_option maxRecDepth 100000 in
theorem LM_abs_s {L : Nat} {xs : Nat → Int32} {t n nc ns : Nat} {kd pl : Nat → Nat} {s : Nat → Int} {a : Nat → Int → Int} {c : Nat → cdt} {s1 : Nat → Int} {v1 : Int64} {a1 : Nat → Int → Int} {nm : Nat → Int64} {N i : Int} {T : Int → List Int} {Q : Option Value → List va_E → Nat → Nat → Prop} {l : List Int} {m0 : Nat} (hi0 : 0 ≤ i) (hi6 : i + 6 ≤ L) (hL : L ≤ 3072) (hok : okT N T) (hc : cI n kd pl s a c (N + 1) (upT T N l)) (hsh : sh s1 a1 N T) (e4 : s1 4 = s 4) (e0 : a1 3 = a 0) (x0 : 0 ≤ (xv xs i 1)) (x1 : (xv xs i 1) < N) (hlt : N < 32) (hab : abR m0 (T (xv xs i 1)) (some l)) (m45 : 0 ≤ s1 45) (m45' : s1 45 ≤ 500) (mt : tld s s1) (hin1 : ∀ i j, in32 (a1 i j)) (hnc : nc ≤ 50 + 12 * (t + 1)) (hns : ns ≤ 194358 + 503 * (t + 1) + wt pl) (k : ∀ n' kd' pl' s' a' c' s1' v1' a1' nm' nc' ns', LI (t + 1) n' kd' pl' s' a' c' s1' a1' nc' ns' → pm_E (some (L, xs)) 11 pm_mm0 779 [(0, .retAddr 0), (1, .ref 0), (2, .ref 18), (3, .int (iI i))] [] (ch n' kd' pl' s' a' c' (mc s1' v1' a1' nm')) nc' ns' Q) : pm_E (some (L, xs)) 11 pm_mm0 595 [(0, .retAddr 0), (1, .ref 0), (2, .ref 18), (3, .int (iI i))] [] (ch n kd pl s a c (mc s1 v1 a1 nm)) nc ns Q := by
  obtain ⟨⟨hW, hn50, hq50⟩, hS, hf, ⟨h4, h4'⟩, hb, ⟨ho0, ho1⟩, ⟨h14, h14'⟩, hA, hY⟩ := id hc
  have hp0 : pl 0 = 0 := hW.2.2.2.2.2.2
  obtain ⟨hN0, hN32, hT⟩ := id hok
  obtain ⟨y1, F, y2⟩ := hT _ x0 x1
  refine pm_e_sim pm_a0_595 rfl ?_
  show pm_E _ _ _ 596 [(0, .retAddr 0), (1, .ref 0), (2, .ref 18), (3, .int (iI i))] [.ref 18] _ _ _ _
  refine pm_e_sim pm_a0_596 rfl ?_
  show pm_E _ _ _ 597 [(0, .retAddr 0), (1, .ref 0), (2, .ref 18), (3, .int (iI i))] [.retAddr 0, .ref 18] _ _ _ _
  refine pm_e_sim pm_a0_597 rfl ?_
  show pm_E _ _ _ 598 [(0, .retAddr 0), (1, .ref 0), (2, .ref 18), (3, .int (iI i))] [.int (iI i), .retAddr 0, .ref 18] _ _ _ _
  refine pm_e_sim pm_a0_598 rfl ?_
  refine pm_e_top (y := iI 1) (by decide +kernel) ?_
  show pm_E _ _ _ 599 [(0, .retAddr 0), (1, .ref 0), (2, .ref 18), (3, .int (iI i))] [.int (iI 1), .int (iI i), .retAddr 0, .ref 18] _ _ _ _
  refine pm_e_sim pm_a0_599 rfl ?_
  refine pm_e_top (y := iI (i + 1)) (iI_add _ _) ?_
  show pm_E _ _ _ 600 [(0, .retAddr 0), (1, .ref 0), (2, .ref 18), (3, .int (iI i))] [.int (iI (i + 1)), .retAddr 0, .ref 18] _ _ _ _
  refine pm_e_sld (j := (i + 1).toNat) pm_a0_600 (pm_ix_I (by omega) (by omega) ⟨by omega, by omega⟩) ?_
  refine pm_e_top (y := iI (xv xs i 1)) (iI_of _).symm ?_
  show pm_E _ _ _ 601 [(0, .retAddr 0), (1, .ref 0), (2, .ref 18), (3, .int (iI i))] [.int (iI (xv xs i 1)), .ref 18] _ _ _ _
  rw [ch_mh hW hn50 hq50]
  refine pm_i_callv (k := 18) (T2 := pm_mm194) pm_a0_601 rfl rfl rfl (mh_get (j := 0) kA18_len rfl) ⟨Nat.le_of_ble_eq_true rfl, Nat.le_of_ble_eq_true rfl, rfl, by decide +kernel⟩ ?_
  show pm_E none _ _ 0 [(0, .ref 18), (1, .int (iI (xv xs i 1)))] [] _ _ _ _
  refine M_abstracted kA18_len hin1 hok hsh xv_in (fun z => absurd z (by omega)) (fun z => absurd z.2.2 (by omega)) (fun m z1 z2 z3 z4 => by have := abR_one y2 hab z4; cases this) (fun l' m z1 z2 z3 z4 s1' a1' f0 f4 f3 => ?_)
  · skip
    rw [← ch_mh hW hn50 hq50]
    show pm_E _ _ _ 604 [(0, .retAddr 0), (1, .ref 0), (2, .ref 18), (3, .int (iI i))] [.int (iI N)] _ _ _ _
    refine pm_e_sim pm_a0_604 rfl ?_
    show pm_E _ _ _ 605 [(0, .retAddr 0), (1, .ref 0), (2, .ref 18), (3, .int (iI i))] [] _ _ _ _
    refine pm_e_goto pm_a0_605 rfl ?_
    show pm_E _ _ _ 779 [(0, .retAddr 0), (1, .ref 0), (2, .ref 18), (3, .int (iI i))] [] _ _ _ _
    have e9 := abR_one y2 hab z4
    cases e9
    obtain ⟨w1, F', w2⟩ := abR_ok y2 hab
    exact k _ _ _ _ _ _ _ _ _ _ _ _ ⟨N + 1, _, okT_add hok hlt w2 w1, hc, ⟨f0, f4.1.trans e4, f3.trans e0, by omega, by omega, tld_m mt f4.2.2.1 f4.2.2.2.1 f4.2.2.2.2⟩, by omega, by omega⟩
set_option maxHeartbeats 4000000 in
set_option maxRecDepth 100000 in
theorem LC_abstracted {L : Nat} {xs : Nat → Int32} {t n nc ns : Nat} {kd pl : Nat → Nat} {s : Nat → Int} {a : Nat → Int → Int} {c : Nat → cdt} {s1 : Nat → Int} {v1 : Int64} {a1 : Nat → Int → Int} {nm : Nat → Int64} {N i : Int} {T : Int → List Int} {Q : Option Value → List va_E → Nat → Nat → Prop} (hi0 : 0 ≤ i) (hi6 : i + 6 ≤ L) (hL : L ≤ 3072) (hok : okT N T) (hc : cI n kd pl s a c N T) (hm : mI s a s1 a1 N T) (hs : ∀ i, in32 (s i)) (hin : ∀ i j, in32 (a i j)) (hin1 : ∀ i j, in32 (a1 i j)) (hnc : nc ≤ 50 + 12 * t) (hns : ns ≤ 194358 + 503 * t + wt pl) (k : ∀ n' kd' pl' s' a' c' s1' v1' a1' nm' nc' ns', LI (t + 1) n' kd' pl' s' a' c' s1' a1' nc' ns' → pm_E (some (L, xs)) 11 pm_mm0 779 [(0, .retAddr 0), (1, .ref 0), (2, .ref 18), (3, .int (iI i))] [] (ch n' kd' pl' s' a' c' (mc s1' v1' a1' nm')) nc' ns' Q) : pm_E (some (L, xs)) 11 pm_mm0 585 [(0, .retAddr 0), (1, .ref 0), (2, .ref 18), (3, .int (iI i))] [] (ch n kd pl s a c (mc s1 v1 a1 nm)) nc ns Q := by
  obtain ⟨⟨hW, hn50, hq50⟩, hS, hf, ⟨h4, h4'⟩, hb, ⟨ho0, ho1⟩, ⟨h14, h14'⟩, hA, hY⟩ := id hc
  have hp0 : pl 0 = 0 := hW.2.2.2.2.2.2
  obtain ⟨hsh, m4, m3, m45, m45', mt⟩ := id hm
  obtain ⟨hN0, hN32, hT⟩ := id hok
  have s0 : s 0 = N := hS.1
  have m0 : s1 0 = N := hsh.1
  refine pm_e_sim pm_a0_585 rfl ?_
  show pm_E _ _ _ 586 [(0, .retAddr 0), (1, .ref 0), (2, .ref 18), (3, .int (iI i))] [.ref 0] _ _ _ _
  refine pm_e_sim pm_a0_586 rfl ?_
  show pm_E _ _ _ 587 [(0, .retAddr 0), (1, .ref 0), (2, .ref 18), (3, .int (iI i))] [.retAddr 0, .ref 0] _ _ _ _
  refine pm_e_sim pm_a0_587 rfl ?_
  show pm_E _ _ _ 588 [(0, .retAddr 0), (1, .ref 0), (2, .ref 18), (3, .int (iI i))] [.int (iI i), .retAddr 0, .ref 0] _ _ _ _
  refine pm_e_sim pm_a0_588 rfl ?_
  refine pm_e_top (y := iI 1) (by decide +kernel) ?_
  show pm_E _ _ _ 589 [(0, .retAddr 0), (1, .ref 0), (2, .ref 18), (3, .int (iI i))] [.int (iI 1), .int (iI i), .retAddr 0, .ref 0] _ _ _ _
  refine pm_e_sim pm_a0_589 rfl ?_
  refine pm_e_top (y := iI (i + 1)) (iI_add _ _) ?_
  show pm_E _ _ _ 590 [(0, .retAddr 0), (1, .ref 0), (2, .ref 18), (3, .int (iI i))] [.int (iI (i + 1)), .retAddr 0, .ref 0] _ _ _ _
  refine pm_e_sld (j := (i + 1).toNat) pm_a0_590 (pm_ix_I (by omega) (by omega) ⟨by omega, by omega⟩) ?_
  refine pm_e_top (y := iI (xv xs i 1)) (iI_of _).symm ?_
  show pm_E _ _ _ 591 [(0, .retAddr 0), (1, .ref 0), (2, .ref 18), (3, .int (iI i))] [.int (iI (xv xs i 1)), .ref 0] _ _ _ _
  refine pm_i_callv (k := 0) (T2 := pm_mm93) pm_a0_591 rfl rfl rfl (cg0 hW) ⟨Nat.le_of_ble_eq_true rfl, Nat.le_of_ble_eq_true rfl, rfl, by decide +kernel⟩ ?_
  show pm_E none _ _ 0 ((0, .ref 0) :: [(1, .int (iI (xv xs i 1)))]) [] _ _ _ _
  refine pm_e_lv0 hp0 ?_
  refine C_abstracted hW hS hT xv_in hin (fun z => hf (s 0).toNat (by omega) (by omega)) ?_ ?_ (fun z => ?_) (fun _ _ z => ?_) (fun x0 x1 hlt n' kd' pl' z nc' ns' s' a' c' l' m' hg z1 z2 z3 z4 z5 z6 z7 z8 => ?_) (fun x0 x1 hlt n' kd' pl' z nc' ns' s' a' c' m' hg z1 z2 z3 z4 z6 z7 z8 => ?_)
  · intro n' kd' pl' hg h2
    rcases hA with h | ⟨h, _⟩
    · have e : ∀ k9, k9 ∈ KA → pl' k9 = 0 := fun k9 hk => by
        have hk' := hk
        simp only [KA, List.mem_cons, List.not_mem_nil, or_false] at hk'
        rw [hg.2 k9 (by omega) (by omega)]; exact h k9 hk
      exact ⟨e 64 (by decide), e 65 (by decide), e 66 (by decide), e 67 (by decide), e 201 (by decide), e 202 (by decide)⟩
    · exact absurd h2 (al_pos hg.1.1 (hg.1.2.2 _ h).1 (by decide))
  · intro n' kd' pl' hg h2
    rcases hA with h | ⟨_, h1, h3⟩
    · have e : pl' 200 = 0 := by rw [hg.2 200 (by omega) (by omega)]; exact h 200 (by decide)
      exact absurd e (al_pos hg.1.1 h2 (by decide))
    · exact ⟨h1, h3⟩
  · skip
    show pm_E _ _ _ 594 [(0, .retAddr 0), (1, .ref 0), (2, .ref 18), (3, .int (iI i))] [.int (iI (-1))] _ _ _ _
    refine pm_e_sim pm_a0_594 rfl ?_
    show pm_E _ _ _ 595 [(0, .retAddr 0), (1, .ref 0), (2, .ref 18), (3, .int (iI i))] [] _ _ _ _
    exact LM_abs_b hi0 hi6 hL hok hc hm hin1 (by omega) (by omega) (by omega) k
  · skip
    show pm_E _ _ _ 594 [(0, .retAddr 0), (1, .ref 0), (2, .ref 18), (3, .int (iI i))] [.int (iI (-3))] _ _ _ _
    refine pm_e_sim pm_a0_594 rfl ?_
    show pm_E _ _ _ 595 [(0, .retAddr 0), (1, .ref 0), (2, .ref 18), (3, .int (iI i))] [] _ _ _ _
    exact LM_abs_b hi0 hi6 hL hok hc hm hin1 (by omega) (by omega) (by omega) k
  · skip
    show pm_E _ _ _ 594 [(0, .retAddr 0), (1, .ref 0), (2, .ref 18), (3, .int (iI i))] [.int (iI (s 0))] _ _ _ _
    refine pm_e_sim pm_a0_594 rfl ?_
    show pm_E _ _ _ 595 [(0, .retAddr 0), (1, .ref 0), (2, .ref 18), (3, .int (iI i))] [] _ _ _ _
    obtain ⟨x, fx⟩ := z7
    have ea : a' 0 = a 0 := fx.2.1 0 (by decide) (by decide) (by decide) (by decide)
    have hC := cI_add (s' := updS s' 0 (s 0 + 1)) (a' := a') (c' := c') hc hg.1 hlt z3 z4 rfl (by show 0 ≤ s' 4 ∧ s' 4 ≤ 600; rw [fx.1 4 (by decide)]; exact ⟨h4, h4'⟩) (by show 0 ≤ s' 14 ∧ s' 14 < 2147483648; rw [fx.1 14 (by decide)]; exact ⟨h14, h14'⟩) (by rw [ea]; exact hb) (fun i h2 h3 hj => (fx.2.2.1 i h2 h3).trans (updC_n hj)) (Or.inr ⟨z8, fx.2.2.2.1, fx.2.2.2.2⟩) hg.2
    exact LM_abs_s hi0 hi6 hL hok hC hsh (m4.trans (fx.1 4 (by decide)).symm) (m3.trans ea.symm) x0 x1 (by omega) z6 m45 m45' (tld_c mt (fx.1 2 (by decide)) (fx.1 3 (by decide)) (fx.1 1 (by decide))) hin1 (by omega) (by rcases z2 with z2 | ⟨z2, z5⟩; (have := wt_le hg.1 hW; omega); (have := wt_A hg.1 hW z2 z8; omega)) k
  · skip
    show pm_E _ _ _ 594 [(0, .retAddr 0), (1, .ref 0), (2, .ref 18), (3, .int (iI i))] [.int (iI (-3))] _ _ _ _
    refine pm_e_sim pm_a0_594 rfl ?_
    show pm_E _ _ _ 595 [(0, .retAddr 0), (1, .ref 0), (2, .ref 18), (3, .int (iI i))] [] _ _ _ _
    obtain ⟨x, fx⟩ := z7
    have ea : a' 0 = a 0 := fx.2.1 0 (by decide) (by decide) (by decide) (by decide)
    have hC := cI_use (s' := s') (a' := a') (c' := c') hc hg.1 hlt z3 z4 (fx.1 0 (by decide)) (by rw [fx.1 4 (by decide)]; exact ⟨h4, h4'⟩) (by rw [fx.1 14 (by decide)]; exact ⟨h14, h14'⟩) (by rw [ea]; exact hb) (fun i h2 h3 hj => (fx.2.2.1 i h2 h3).trans (updC_n hj)) (Or.inr ⟨z8, fx.2.2.2.1, fx.2.2.2.2⟩) hg.2
    exact LM_abs_n hi0 hi6 hL hok hC ⟨hsh, m4.trans (fx.1 4 (by decide)).symm, m3.trans ea.symm, m45, m45', tld_c mt (fx.1 2 (by decide)) (fx.1 3 (by decide)) (fx.1 1 (by decide))⟩ hin1 (by omega) (by rcases z2 with z2 | ⟨z2, z5⟩; (have := wt_le hg.1 hW; omega); (have := wt_A hg.1 hW z2 z8; omega)) x0 x1 (by omega) z6 k
theorem cI_drop {n : Nat} {kd pl : Nat → Nat} {s : Nat → Int} {a : Nat → Int → Int} {c : Nat → cdt} {N : Int} {T : Int → List Int} (h : cI n kd pl s a c N T) (hN : 0 < N) : cI n kd pl (updS s 0 (s 0 - 1)) a c (N - 1) T := by
  obtain ⟨g1, ⟨q1, q2, q3, q4⟩, g3, g4, g5, g6, g7, g8, g9⟩ := h
  refine ⟨g1, ⟨by show s 0 - 1 = N - 1; omega, by omega, by omega, fun t t0 t1 => q4 t t0 (by omega)⟩, fun i i0 i1 => ?_, g4, g5, g6, g7, g8, g9⟩
  by_cases e : (i : Int) = N - 1
  · obtain ⟨z1, z2⟩ := q4 (N - 1) (by omega) (by omega)
    have e2 : (N - 1).toNat = i := by omega
    rw [e2] at z1 z2
    exact Or.inl ⟨z1, z2.1⟩
  · exact g3 i (by omega) i1
set_option maxHeartbeats 4000000 in
set_option maxRecDepth 100000 in
theorem LM_drop0 {L : Nat} {xs : Nat → Int32} {t n nc ns : Nat} {kd pl : Nat → Nat} {s : Nat → Int} {a : Nat → Int → Int} {c : Nat → cdt} {s1 : Nat → Int} {v1 : Int64} {a1 : Nat → Int → Int} {nm : Nat → Int64} {N i : Int} {T : Int → List Int} {Q : Option Value → List va_E → Nat → Nat → Prop} (hi0 : 0 ≤ i) (hi6 : i + 6 ≤ L) (hL : L ≤ 3072) (hok : okT N T) (hc : cI n kd pl s a c N T) (hm : mI s a s1 a1 N T) (hin1 : ∀ i j, in32 (a1 i j)) (hnc : nc ≤ 50 + 12 * (t + 1)) (hns : ns ≤ 194358 + 503 * (t + 1) + wt pl) (hx : N = 0) (k : ∀ n' kd' pl' s' a' c' s1' v1' a1' nm' nc' ns', LI (t + 1) n' kd' pl' s' a' c' s1' a1' nc' ns' → pm_E (some (L, xs)) 11 pm_mm0 779 [(0, .retAddr 0), (1, .ref 0), (2, .ref 18), (3, .int (iI i))] [] (ch n' kd' pl' s' a' c' (mc s1' v1' a1' nm')) nc' ns' Q) : pm_E (some (L, xs)) 11 pm_mm0 748 [(0, .retAddr 0), (1, .ref 0), (2, .ref 18), (3, .int (iI i))] [] (ch n kd pl s a c (mc s1 v1 a1 nm)) nc ns Q := by
  obtain ⟨⟨hW, hn50, hq50⟩, hS, hf, ⟨h4, h4'⟩, hb, ⟨ho0, ho1⟩, ⟨h14, h14'⟩, hA, hY⟩ := id hc
  have hp0 : pl 0 = 0 := hW.2.2.2.2.2.2
  obtain ⟨hsh, m4, m3, m45, m45', mt⟩ := id hm
  obtain ⟨hN0, hN32, hT⟩ := id hok
  have s0 : s 0 = N := hS.1
  have m0 : s1 0 = N := hsh.1
  refine pm_e_sim pm_a0_748 rfl ?_
  show pm_E _ _ _ 749 [(0, .retAddr 0), (1, .ref 0), (2, .ref 18), (3, .int (iI i))] [.ref 18] _ _ _ _
  rw [ch_mh hW hn50 hq50]
  refine pm_i_callv (k := 18) (T2 := pm_mm213) pm_a0_749 rfl rfl rfl (mh_get (j := 0) kA18_len rfl) ⟨Nat.le_of_ble_eq_true rfl, Nat.le_of_ble_eq_true rfl, rfl, by decide +kernel⟩ ?_
  show pm_E none _ _ 0 [(0, .ref 18)] [] _ _ _ _
  refine M_drop kA18_len (by omega) (by omega) (fun _ => ?_) (fun z9 => absurd z9 (by omega))
  · skip
    rw [← ch_mh hW hn50 hq50]
    show pm_E _ _ _ 752 [(0, .retAddr 0), (1, .ref 0), (2, .ref 18), (3, .int (iI i))] [.int (iI (-4))] _ _ _ _
    refine pm_e_sim pm_a0_752 rfl ?_
    show pm_E _ _ _ 753 [(0, .retAddr 0), (1, .ref 0), (2, .ref 18), (3, .int (iI i))] [] _ _ _ _
    refine pm_e_goto pm_a0_753 rfl ?_
    show pm_E _ _ _ 779 [(0, .retAddr 0), (1, .ref 0), (2, .ref 18), (3, .int (iI i))] [] _ _ _ _
    exact k _ _ _ _ _ _ _ _ _ _ _ _ ⟨N, T, hok, hc, hm, by omega, by omega⟩
set_option maxHeartbeats 4000000 in
set_option maxRecDepth 100000 in
theorem LM_drop1 {L : Nat} {xs : Nat → Int32} {t n nc ns : Nat} {kd pl : Nat → Nat} {s : Nat → Int} {a : Nat → Int → Int} {c : Nat → cdt} {s1 : Nat → Int} {v1 : Int64} {a1 : Nat → Int → Int} {nm : Nat → Int64} {N i : Int} {T : Int → List Int} {Q : Option Value → List va_E → Nat → Nat → Prop} (hi0 : 0 ≤ i) (hi6 : i + 6 ≤ L) (hL : L ≤ 3072) (hok : okT N T) (hc : cI n kd pl s a c (N - 1) T) (hsh : sh s1 a1 N T) (e4 : s1 4 = s 4) (e0 : a1 3 = a 0) (hx : 0 < N) (m45 : 0 ≤ s1 45) (m45' : s1 45 ≤ 500) (mt : tld s s1) (hin1 : ∀ i j, in32 (a1 i j)) (hnc : nc ≤ 50 + 12 * (t + 1)) (hns : ns ≤ 194358 + 503 * (t + 1) + wt pl) (k : ∀ n' kd' pl' s' a' c' s1' v1' a1' nm' nc' ns', LI (t + 1) n' kd' pl' s' a' c' s1' a1' nc' ns' → pm_E (some (L, xs)) 11 pm_mm0 779 [(0, .retAddr 0), (1, .ref 0), (2, .ref 18), (3, .int (iI i))] [] (ch n' kd' pl' s' a' c' (mc s1' v1' a1' nm')) nc' ns' Q) : pm_E (some (L, xs)) 11 pm_mm0 748 [(0, .retAddr 0), (1, .ref 0), (2, .ref 18), (3, .int (iI i))] [] (ch n kd pl s a c (mc s1 v1 a1 nm)) nc ns Q := by
  obtain ⟨⟨hW, hn50, hq50⟩, hS, hf, ⟨h4, h4'⟩, hb, ⟨ho0, ho1⟩, ⟨h14, h14'⟩, hA, hY⟩ := id hc
  have hp0 : pl 0 = 0 := hW.2.2.2.2.2.2
  obtain ⟨hN0, hN32, hT⟩ := id hok
  have m0 : s1 0 = N := hsh.1
  refine pm_e_sim pm_a0_748 rfl ?_
  show pm_E _ _ _ 749 [(0, .retAddr 0), (1, .ref 0), (2, .ref 18), (3, .int (iI i))] [.ref 18] _ _ _ _
  rw [ch_mh hW hn50 hq50]
  refine pm_i_callv (k := 18) (T2 := pm_mm213) pm_a0_749 rfl rfl rfl (mh_get (j := 0) kA18_len rfl) ⟨Nat.le_of_ble_eq_true rfl, Nat.le_of_ble_eq_true rfl, rfl, by decide +kernel⟩ ?_
  show pm_E none _ _ 0 [(0, .ref 18)] [] _ _ _ _
  refine M_drop kA18_len (by omega) (by omega) (fun z9 => absurd z9 (by omega)) (fun _ => ?_)
  · skip
    rw [← ch_mh hW hn50 hq50]
    show pm_E _ _ _ 752 [(0, .retAddr 0), (1, .ref 0), (2, .ref 18), (3, .int (iI i))] [.int (iI (s1 0 - 1))] _ _ _ _
    refine pm_e_sim pm_a0_752 rfl ?_
    show pm_E _ _ _ 753 [(0, .retAddr 0), (1, .ref 0), (2, .ref 18), (3, .int (iI i))] [] _ _ _ _
    refine pm_e_goto pm_a0_753 rfl ?_
    show pm_E _ _ _ 779 [(0, .retAddr 0), (1, .ref 0), (2, .ref 18), (3, .int (iI i))] [] _ _ _ _
    refine k _ _ _ _ _ _ _ _ _ _ _ _ ⟨N - 1, T, ⟨by omega, by omega, fun t t0 t1 => hT t t0 (by omega)⟩, hc, ⟨⟨by show s1 0 - 1 = N - 1; omega, fun t t0 t1 => hsh.2 t t0 (by omega)⟩, e4, e0, m45, m45', tld_m mt rfl rfl rfl⟩, by omega, by omega⟩
set_option maxHeartbeats 4000000 in
set_option maxRecDepth 100000 in
theorem LC_drop {L : Nat} {xs : Nat → Int32} {t n nc ns : Nat} {kd pl : Nat → Nat} {s : Nat → Int} {a : Nat → Int → Int} {c : Nat → cdt} {s1 : Nat → Int} {v1 : Int64} {a1 : Nat → Int → Int} {nm : Nat → Int64} {N i : Int} {T : Int → List Int} {Q : Option Value → List va_E → Nat → Nat → Prop} (hi0 : 0 ≤ i) (hi6 : i + 6 ≤ L) (hL : L ≤ 3072) (hok : okT N T) (hc : cI n kd pl s a c N T) (hm : mI s a s1 a1 N T) (hs : ∀ i, in32 (s i)) (hin : ∀ i j, in32 (a i j)) (hin1 : ∀ i j, in32 (a1 i j)) (hnc : nc ≤ 50 + 12 * t) (hns : ns ≤ 194358 + 503 * t + wt pl) (k : ∀ n' kd' pl' s' a' c' s1' v1' a1' nm' nc' ns', LI (t + 1) n' kd' pl' s' a' c' s1' a1' nc' ns' → pm_E (some (L, xs)) 11 pm_mm0 779 [(0, .retAddr 0), (1, .ref 0), (2, .ref 18), (3, .int (iI i))] [] (ch n' kd' pl' s' a' c' (mc s1' v1' a1' nm')) nc' ns' Q) : pm_E (some (L, xs)) 11 pm_mm0 743 [(0, .retAddr 0), (1, .ref 0), (2, .ref 18), (3, .int (iI i))] [] (ch n kd pl s a c (mc s1 v1 a1 nm)) nc ns Q := by
  obtain ⟨⟨hW, hn50, hq50⟩, hS, hf, ⟨h4, h4'⟩, hb, ⟨ho0, ho1⟩, ⟨h14, h14'⟩, hA, hY⟩ := id hc
  have hp0 : pl 0 = 0 := hW.2.2.2.2.2.2
  obtain ⟨hsh, m4, m3, m45, m45', mt⟩ := id hm
  obtain ⟨hN0, hN32, hT⟩ := id hok
  have s0 : s 0 = N := hS.1
  have m0 : s1 0 = N := hsh.1
  refine pm_e_sim pm_a0_743 rfl ?_
  show pm_E _ _ _ 744 [(0, .retAddr 0), (1, .ref 0), (2, .ref 18), (3, .int (iI i))] [.ref 0] _ _ _ _
  refine pm_i_callv (k := 0) (T2 := pm_mm140) pm_a0_744 rfl rfl rfl (cg0 hW) ⟨Nat.le_of_ble_eq_true rfl, Nat.le_of_ble_eq_true rfl, rfl, by decide +kernel⟩ ?_
  show pm_E none _ _ 0 ((0, .ref 0) :: []) [] _ _ _ _
  refine pm_e_lv0 hp0 ?_
  refine C_drop hW (by omega) (by omega) (fun z => ?_) (fun z => ?_)
  · skip
    show pm_E _ _ _ 747 [(0, .retAddr 0), (1, .ref 0), (2, .ref 18), (3, .int (iI i))] [.int (iI (-4))] _ _ _ _
    refine pm_e_sim pm_a0_747 rfl ?_
    show pm_E _ _ _ 748 [(0, .retAddr 0), (1, .ref 0), (2, .ref 18), (3, .int (iI i))] [] _ _ _ _
    exact LM_drop0 hi0 hi6 hL hok hc hm hin1 (by omega) (by omega) (by omega) k
  · skip
    show pm_E _ _ _ 747 [(0, .retAddr 0), (1, .ref 0), (2, .ref 18), (3, .int (iI i))] [.int (iI (s 0 - 1))] _ _ _ _
    refine pm_e_sim pm_a0_747 rfl ?_
    show pm_E _ _ _ 748 [(0, .retAddr 0), (1, .ref 0), (2, .ref 18), (3, .int (iI i))] [] _ _ _ _
    exact LM_drop1 hi0 hi6 hL hok (cI_drop hc (by omega)) hsh m4 m3 (by omega) m45 m45' (tld_c mt rfl rfl rfl) hin1 (by omega) (by omega) k
