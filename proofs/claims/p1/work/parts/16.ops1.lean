/-! one call on a fresh object -/
set_option maxHeartbeats 40000000 in
set_option maxRecDepth 200000 in
theorem pm_op8 (xs : Nat → Int32) {Q : Option Value → List va_E → Nat → Nat → Prop} (hQ : ∀ ph c n, c ≤ 600000 → n ≤ 7302250 → Q (some (.int 1)) ph c n) : pm_E (some (6, xs)) 11 pm_mm0 33 pm_L0 [.int (nI 8)] pm_H0 50 194358 Q := by
  refine pm_e_top (y := 8) (by decide +kernel) ?_
  rcases (show (xs 1).toInt < 0 ∨ (xs 1).toInt = 0 ∨ 0 < (xs 1).toInt by omega) with h1 | h1 | h1
  · refine pm_e_tsi (t := 374) pm_a0_33 rfl (by decide +kernel) ?_
    show pm_E _ _ _ 374 [(3, .int 0), (2, .ref 18), (1, .ref 0), (0, .retAddr 0)] [] _ _ _ _
    refine pm_e_sim pm_a0_374 rfl ?_
    show pm_E _ _ _ 375 [(3, .int 0), (2, .ref 18), (1, .ref 0), (0, .retAddr 0)] [.ref 0] _ _ _ _
    refine pm_e_sim pm_a0_375 rfl ?_
    show pm_E _ _ _ 376 [(3, .int 0), (2, .ref 18), (1, .ref 0), (0, .retAddr 0)] [.retAddr 0, .ref 0] _ _ _ _
    refine pm_e_sim pm_a0_376 rfl ?_
    show pm_E _ _ _ 377 [(3, .int 0), (2, .ref 18), (1, .ref 0), (0, .retAddr 0)] [.int 0, .retAddr 0, .ref 0] _ _ _ _
    refine pm_e_sim pm_a0_377 rfl ?_
    refine pm_e_top (y := 1) (by decide +kernel) ?_
    show pm_E _ _ _ 378 [(3, .int 0), (2, .ref 18), (1, .ref 0), (0, .retAddr 0)] [.int 1, .int 0, .retAddr 0, .ref 0] _ _ _ _
    refine pm_e_sim pm_a0_378 rfl ?_
    refine pm_e_top (y := 1) (by decide +kernel) ?_
    show pm_E _ _ _ 379 [(3, .int 0), (2, .ref 18), (1, .ref 0), (0, .retAddr 0)] [.int 1, .retAddr 0, .ref 0] _ _ _ _
    refine pm_e_sld (j := 1) pm_a0_379 (by decide +kernel) ?_
    show pm_E _ _ _ 380 [(3, .int 0), (2, .ref 18), (1, .ref 0), (0, .retAddr 0)] [.int _, .ref 0] _ _ _ _
    refine pm_e_call (T2 := pm_mm30) pm_a0_380 rfl rfl rfl rfl rfl rfl rfl rfl rfl ?_
    show pm_E _ _ _ 0 [(0, .ref 0), (1, .int _)] [] _ _ _ _
    refine pm_e_sim pm_a30_0 rfl ?_
    show pm_E _ _ _ 1 [(0, .ref 0), (1, .int _)] [.ref 0] _ _ _ _
    refine pm_e_sim pm_a30_1 rfl ?_
    show pm_E _ _ _ 2 [(0, .ref 0), (1, .int _)] [.int _, .ref 0] _ _ _ _
    refine pm_e_call (T2 := pm_mm26) pm_a30_2 rfl rfl rfl rfl rfl rfl rfl rfl rfl ?_
    show pm_E _ _ _ 0 [(0, .ref 0), (1, .int _)] [] _ _ _ _
    refine pm_e_sim pm_a26_0 rfl ?_
    show pm_E _ _ _ 1 [(0, .ref 0), (1, .int _)] [.int _] _ _ _ _
    refine pm_e_ift pm_a26_1 rfl (pm_z_lt_t 0 (by decide +kernel) (by omega)) ?_
    show pm_E _ _ _ 30 [(0, .ref 0), (1, .int _)] [] _ _ _ _
    refine pm_e_sim pm_a26_30 rfl ?_
    show pm_E _ _ _ 31 [(0, .ref 0), (1, .int _)] [.null] _ _ _ _
    refine pm_e_ret pm_a26_31 rfl rfl rfl rfl rfl rfl rfl rfl ?_
    show pm_E _ _ _ 5 [(0, .ref 0), (1, .int _)] [.null] _ _ _ _
    refine pm_e_sim pm_a30_5 rfl ?_
    show pm_E _ _ _ 6 [(2, .null), (0, .ref 0), (1, .int _)] [] _ _ _ _
    refine pm_e_sim pm_a30_6 rfl ?_
    show pm_E _ _ _ 7 [(2, .null), (0, .ref 0), (1, .int _)] [.null] _ _ _ _
    refine pm_e_jmp (pc2 := 10) pm_a30_7 rfl rfl ?_
    show pm_E _ _ _ 10 [(2, .null), (0, .ref 0), (1, .int _)] [] _ _ _ _
    refine pm_e_sim pm_a30_10 rfl ?_
    refine pm_e_top (y := (-1)) (by decide +kernel) ?_
    show pm_E _ _ _ 11 [(2, .null), (0, .ref 0), (1, .int _)] [.int (-1)] _ _ _ _
    refine pm_e_ret pm_a30_11 rfl rfl rfl rfl rfl rfl rfl rfl ?_
    show pm_E _ _ _ 383 [(3, .int 0), (2, .ref 18), (1, .ref 0), (0, .retAddr 0)] [.int (-1)] _ _ _ _
    refine pm_e_sim pm_a0_383 rfl ?_
    show pm_E _ _ _ 384 [(3, .int 0), (2, .ref 18), (1, .ref 0), (0, .retAddr 0)] [.ref 18, .int (-1)] _ _ _ _
    refine pm_e_sim pm_a0_384 rfl ?_
    show pm_E _ _ _ 385 [(3, .int 0), (2, .ref 18), (1, .ref 0), (0, .retAddr 0)] [.retAddr 0, .ref 18, .int (-1)] _ _ _ _
    refine pm_e_sim pm_a0_385 rfl ?_
    show pm_E _ _ _ 386 [(3, .int 0), (2, .ref 18), (1, .ref 0), (0, .retAddr 0)] [.int 0, .retAddr 0, .ref 18, .int (-1)] _ _ _ _
    refine pm_e_sim pm_a0_386 rfl ?_
    refine pm_e_top (y := 1) (by decide +kernel) ?_
    show pm_E _ _ _ 387 [(3, .int 0), (2, .ref 18), (1, .ref 0), (0, .retAddr 0)] [.int 1, .int 0, .retAddr 0, .ref 18, .int (-1)] _ _ _ _
    refine pm_e_sim pm_a0_387 rfl ?_
    refine pm_e_top (y := 1) (by decide +kernel) ?_
    show pm_E _ _ _ 388 [(3, .int 0), (2, .ref 18), (1, .ref 0), (0, .retAddr 0)] [.int 1, .retAddr 0, .ref 18, .int (-1)] _ _ _ _
    refine pm_e_sld (j := 1) pm_a0_388 (by decide +kernel) ?_
    show pm_E _ _ _ 389 [(3, .int 0), (2, .ref 18), (1, .ref 0), (0, .retAddr 0)] [.int _, .ref 18, .int (-1)] _ _ _ _
    refine pm_e_call (T2 := pm_mm65) pm_a0_389 rfl rfl rfl rfl rfl rfl rfl rfl rfl ?_
    show pm_E _ _ _ 0 [(0, .ref 18), (1, .int _)] [] _ _ _ _
    refine pm_e_sim pm_a65_0 rfl ?_
    show pm_E _ _ _ 1 [(0, .ref 18), (1, .int _)] [.ref 18] _ _ _ _
    refine pm_e_sim pm_a65_1 rfl ?_
    show pm_E _ _ _ 2 [(0, .ref 18), (1, .int _)] [.int _, .ref 18] _ _ _ _
    refine pm_e_call (T2 := pm_mm61) pm_a65_2 rfl rfl rfl rfl rfl rfl rfl rfl rfl ?_
    show pm_E _ _ _ 0 [(0, .ref 18), (1, .int _)] [] _ _ _ _
    refine pm_e_sim pm_a61_0 rfl ?_
    show pm_E _ _ _ 1 [(0, .ref 18), (1, .int _)] [.int _] _ _ _ _
    refine pm_e_sim pm_a61_1 rfl ?_
    show pm_E _ _ _ 2 [(0, .ref 18), (1, .int _)] [.long _] _ _ _ _
    refine pm_e_sim pm_a61_2 rfl ?_
    show pm_E _ _ _ 3 [(0, .ref 18), (1, .int _)] [.long _, .long _] _ _ _ _
    refine pm_e_sim pm_a61_3 rfl ?_
    show pm_E _ _ _ 4 [(0, .ref 18), (1, .int _)] [.ref 18, .long _, .long _] _ _ _ _
    refine pm_e_rd pm_a61_4 rfl rfl rfl ?_
    show pm_E _ _ _ 7 [(0, .ref 18), (1, .int _)] [.int 0, .long _, .long _] _ _ _ _
    refine pm_e_sim pm_a61_7 rfl ?_
    refine pm_e_top (y := 1) (by decide +kernel) ?_
    show pm_E _ _ _ 8 [(0, .ref 18), (1, .int _)] [.int 1, .int 0, .long _, .long _] _ _ _ _
    refine pm_e_sim pm_a61_8 rfl ?_
    refine pm_e_top (y := (-1)) (by decide +kernel) ?_
    show pm_E _ _ _ 9 [(0, .ref 18), (1, .int _)] [.int (-1), .long _, .long _] _ _ _ _
    refine pm_e_sim pm_a61_9 rfl ?_
    show pm_E _ _ _ 10 [(0, .ref 18), (1, .int _)] [.long _, .long _, .long _] _ _ _ _
    refine pm_e_call (T2 := pm_mm50) pm_a61_10 rfl rfl rfl rfl rfl rfl rfl rfl rfl ?_
    show pm_E _ _ _ 0 [(0, .long _), (2, .long _), (4, .long _)] [] _ _ _ _
    refine pm_e_sim pm_a50_0 rfl ?_
    show pm_E _ _ _ 1 [(0, .long _), (2, .long _), (4, .long _)] [.long _] _ _ _ _
    refine pm_e_sim pm_a50_1 rfl ?_
    show pm_E _ _ _ 2 [(0, .long _), (2, .long _), (4, .long _)] [.long _, .long _] _ _ _ _
    refine pm_e_sim pm_a50_2 rfl ?_
    show pm_E _ _ _ 3 [(0, .long _), (2, .long _), (4, .long _)] [.int _] _ _ _ _
    refine pm_e_ift pm_a50_3 rfl (pm_zl_lt 0 (by decide +kernel) (by omega) (by decide +kernel)) ?_
    show pm_E _ _ _ 17 [(0, .long _), (2, .long _), (4, .long _)] [] _ _ _ _
    refine pm_e_sim pm_a50_17 rfl ?_
    refine pm_e_top (y := 0) (by decide +kernel) ?_
    show pm_E _ _ _ 18 [(0, .long _), (2, .long _), (4, .long _)] [.int 0] _ _ _ _
    refine pm_e_ret pm_a50_18 rfl rfl rfl rfl rfl rfl rfl rfl ?_
    show pm_E _ _ _ 13 [(0, .ref 18), (1, .int _)] [.int 0] _ _ _ _
    refine pm_e_ret pm_a61_13 rfl rfl rfl rfl rfl rfl rfl rfl ?_
    show pm_E _ _ _ 5 [(0, .ref 18), (1, .int _)] [.int 0] _ _ _ _
    refine pm_e_iff pm_a65_5 rfl (by decide +kernel) ?_
    show pm_E _ _ _ 8 [(0, .ref 18), (1, .int _)] [] _ _ _ _
    refine pm_e_sim pm_a65_8 rfl ?_
    refine pm_e_top (y := (-1)) (by decide +kernel) ?_
    show pm_E _ _ _ 9 [(0, .ref 18), (1, .int _)] [.int (-1)] _ _ _ _
    refine pm_e_ret pm_a65_9 rfl rfl rfl rfl rfl rfl rfl rfl ?_
    show pm_E _ _ _ 392 [(3, .int 0), (2, .ref 18), (1, .ref 0), (0, .retAddr 0)] [.int (-1), .int (-1)] _ _ _ _
    refine pm_e_ict pm_a0_392 rfl (by decide +kernel) ?_
    show pm_E _ _ _ 779 [(3, .int 0), (2, .ref 18), (1, .ref 0), (0, .retAddr 0)] [] _ _ _ _
    refine pm_e_inc (y := 6) pm_a0_779 rfl (by decide +kernel) (by decide +kernel) rfl ?_
    show pm_E _ _ _ 782 [(3, .int 6), (2, .ref 18), (1, .ref 0), (0, .retAddr 0)] [] _ _ _ _
    refine pm_e_goto pm_a0_782 rfl ?_
    show pm_E _ _ _ 18 [(3, .int 6), (2, .ref 18), (1, .ref 0), (0, .retAddr 0)] [] _ _ _ _
    refine pm_e_sim pm_a0_18 rfl ?_
    show pm_E _ _ _ 19 [(3, .int 6), (2, .ref 18), (1, .ref 0), (0, .retAddr 0)] [.int 6] _ _ _ _
    refine pm_e_sim pm_a0_19 rfl ?_
    show pm_E _ _ _ 20 [(3, .int 6), (2, .ref 18), (1, .ref 0), (0, .retAddr 0)] [.retAddr 0, .int 6] _ _ _ _
    refine pm_e_rd pm_a0_20 rfl rfl rfl ?_
    dsimp only
    refine pm_e_top (y := 6) (by decide +kernel) ?_
    show pm_E _ _ _ 21 [(3, .int 6), (2, .ref 18), (1, .ref 0), (0, .retAddr 0)] [.int 6, .int 6] _ _ _ _
    refine pm_e_sim pm_a0_21 rfl ?_
    refine pm_e_top (y := 6) (by decide +kernel) ?_
    show pm_E _ _ _ 23 [(3, .int 6), (2, .ref 18), (1, .ref 0), (0, .retAddr 0)] [.int 6, .int 6, .int 6] _ _ _ _
    refine pm_e_sim pm_a0_23 rfl ?_
    refine pm_e_top (y := 0) (by decide +kernel) ?_
    show pm_E _ _ _ 24 [(3, .int 6), (2, .ref 18), (1, .ref 0), (0, .retAddr 0)] [.int 0, .int 6] _ _ _ _
    refine pm_e_ict pm_a0_24 rfl (by decide +kernel) ?_
    show pm_E _ _ _ 785 [(3, .int 6), (2, .ref 18), (1, .ref 0), (0, .retAddr 0)] [] _ _ _ _
    refine pm_e_sim pm_a0_785 rfl ?_
    refine pm_e_top (y := 1) (by decide +kernel) ?_
    show pm_E _ _ _ 786 [(3, .int 6), (2, .ref 18), (1, .ref 0), (0, .retAddr 0)] [.int 1] _ _ _ _
    refine pm_e_ret pm_a0_786 rfl rfl rfl rfl rfl rfl rfl rfl ?_
    exact hQ _ _ _ (by decide +kernel) (by decide +kernel)
  · refine pm_e_tsi (t := 374) pm_a0_33 rfl (by decide +kernel) ?_
    show pm_E _ _ _ 374 [(3, .int 0), (2, .ref 18), (1, .ref 0), (0, .retAddr 0)] [] _ _ _ _
    refine pm_e_sim pm_a0_374 rfl ?_
    show pm_E _ _ _ 375 [(3, .int 0), (2, .ref 18), (1, .ref 0), (0, .retAddr 0)] [.ref 0] _ _ _ _
    refine pm_e_sim pm_a0_375 rfl ?_
    show pm_E _ _ _ 376 [(3, .int 0), (2, .ref 18), (1, .ref 0), (0, .retAddr 0)] [.retAddr 0, .ref 0] _ _ _ _
    refine pm_e_sim pm_a0_376 rfl ?_
    show pm_E _ _ _ 377 [(3, .int 0), (2, .ref 18), (1, .ref 0), (0, .retAddr 0)] [.int 0, .retAddr 0, .ref 0] _ _ _ _
    refine pm_e_sim pm_a0_377 rfl ?_
    refine pm_e_top (y := 1) (by decide +kernel) ?_
    show pm_E _ _ _ 378 [(3, .int 0), (2, .ref 18), (1, .ref 0), (0, .retAddr 0)] [.int 1, .int 0, .retAddr 0, .ref 0] _ _ _ _
    refine pm_e_sim pm_a0_378 rfl ?_
    refine pm_e_top (y := 1) (by decide +kernel) ?_
    show pm_E _ _ _ 379 [(3, .int 0), (2, .ref 18), (1, .ref 0), (0, .retAddr 0)] [.int 1, .retAddr 0, .ref 0] _ _ _ _
    refine pm_e_sld (j := 1) pm_a0_379 (by decide +kernel) ?_
    show pm_E _ _ _ 380 [(3, .int 0), (2, .ref 18), (1, .ref 0), (0, .retAddr 0)] [.int _, .ref 0] _ _ _ _
    refine pm_e_call (T2 := pm_mm30) pm_a0_380 rfl rfl rfl rfl rfl rfl rfl rfl rfl ?_
    show pm_E _ _ _ 0 [(0, .ref 0), (1, .int _)] [] _ _ _ _
    refine pm_e_sim pm_a30_0 rfl ?_
    show pm_E _ _ _ 1 [(0, .ref 0), (1, .int _)] [.ref 0] _ _ _ _
    refine pm_e_sim pm_a30_1 rfl ?_
    show pm_E _ _ _ 2 [(0, .ref 0), (1, .int _)] [.int _, .ref 0] _ _ _ _
    refine pm_e_call (T2 := pm_mm26) pm_a30_2 rfl rfl rfl rfl rfl rfl rfl rfl rfl ?_
    show pm_E _ _ _ 0 [(0, .ref 0), (1, .int _)] [] _ _ _ _
    refine pm_e_sim pm_a26_0 rfl ?_
    show pm_E _ _ _ 1 [(0, .ref 0), (1, .int _)] [.int _] _ _ _ _
    refine pm_e_iff pm_a26_1 rfl (pm_z_lt_f 0 (by decide +kernel) (by omega)) ?_
    show pm_E _ _ _ 4 [(0, .ref 0), (1, .int _)] [] _ _ _ _
    refine pm_e_sim pm_a26_4 rfl ?_
    show pm_E _ _ _ 5 [(0, .ref 0), (1, .int _)] [.int _] _ _ _ _
    refine pm_e_sim pm_a26_5 rfl ?_
    show pm_E _ _ _ 6 [(0, .ref 0), (1, .int _)] [.ref 0, .int _] _ _ _ _
    refine pm_e_rd pm_a26_6 rfl rfl rfl ?_
    show pm_E _ _ _ 9 [(0, .ref 0), (1, .int _)] [.int 0, .int _] _ _ _ _
    refine pm_e_ict pm_a26_9 rfl (pm_z_ge_t 0 (by decide +kernel) (by omega)) ?_
    show pm_E _ _ _ 30 [(0, .ref 0), (1, .int _)] [] _ _ _ _
    refine pm_e_sim pm_a26_30 rfl ?_
    show pm_E _ _ _ 31 [(0, .ref 0), (1, .int _)] [.null] _ _ _ _
    refine pm_e_ret pm_a26_31 rfl rfl rfl rfl rfl rfl rfl rfl ?_
    show pm_E _ _ _ 5 [(0, .ref 0), (1, .int _)] [.null] _ _ _ _
    refine pm_e_sim pm_a30_5 rfl ?_
    show pm_E _ _ _ 6 [(2, .null), (0, .ref 0), (1, .int _)] [] _ _ _ _
    refine pm_e_sim pm_a30_6 rfl ?_
    show pm_E _ _ _ 7 [(2, .null), (0, .ref 0), (1, .int _)] [.null] _ _ _ _
    refine pm_e_jmp (pc2 := 10) pm_a30_7 rfl rfl ?_
    show pm_E _ _ _ 10 [(2, .null), (0, .ref 0), (1, .int _)] [] _ _ _ _
    refine pm_e_sim pm_a30_10 rfl ?_
    refine pm_e_top (y := (-1)) (by decide +kernel) ?_
    show pm_E _ _ _ 11 [(2, .null), (0, .ref 0), (1, .int _)] [.int (-1)] _ _ _ _
    refine pm_e_ret pm_a30_11 rfl rfl rfl rfl rfl rfl rfl rfl ?_
    show pm_E _ _ _ 383 [(3, .int 0), (2, .ref 18), (1, .ref 0), (0, .retAddr 0)] [.int (-1)] _ _ _ _
    refine pm_e_sim pm_a0_383 rfl ?_
    show pm_E _ _ _ 384 [(3, .int 0), (2, .ref 18), (1, .ref 0), (0, .retAddr 0)] [.ref 18, .int (-1)] _ _ _ _
    refine pm_e_sim pm_a0_384 rfl ?_
    show pm_E _ _ _ 385 [(3, .int 0), (2, .ref 18), (1, .ref 0), (0, .retAddr 0)] [.retAddr 0, .ref 18, .int (-1)] _ _ _ _
    refine pm_e_sim pm_a0_385 rfl ?_
    show pm_E _ _ _ 386 [(3, .int 0), (2, .ref 18), (1, .ref 0), (0, .retAddr 0)] [.int 0, .retAddr 0, .ref 18, .int (-1)] _ _ _ _
    refine pm_e_sim pm_a0_386 rfl ?_
    refine pm_e_top (y := 1) (by decide +kernel) ?_
    show pm_E _ _ _ 387 [(3, .int 0), (2, .ref 18), (1, .ref 0), (0, .retAddr 0)] [.int 1, .int 0, .retAddr 0, .ref 18, .int (-1)] _ _ _ _
    refine pm_e_sim pm_a0_387 rfl ?_
    refine pm_e_top (y := 1) (by decide +kernel) ?_
    show pm_E _ _ _ 388 [(3, .int 0), (2, .ref 18), (1, .ref 0), (0, .retAddr 0)] [.int 1, .retAddr 0, .ref 18, .int (-1)] _ _ _ _
    refine pm_e_sld (j := 1) pm_a0_388 (by decide +kernel) ?_
    show pm_E _ _ _ 389 [(3, .int 0), (2, .ref 18), (1, .ref 0), (0, .retAddr 0)] [.int _, .ref 18, .int (-1)] _ _ _ _
    refine pm_e_call (T2 := pm_mm65) pm_a0_389 rfl rfl rfl rfl rfl rfl rfl rfl rfl ?_
    show pm_E _ _ _ 0 [(0, .ref 18), (1, .int _)] [] _ _ _ _
    refine pm_e_sim pm_a65_0 rfl ?_
    show pm_E _ _ _ 1 [(0, .ref 18), (1, .int _)] [.ref 18] _ _ _ _
    refine pm_e_sim pm_a65_1 rfl ?_
    show pm_E _ _ _ 2 [(0, .ref 18), (1, .int _)] [.int _, .ref 18] _ _ _ _
    refine pm_e_call (T2 := pm_mm61) pm_a65_2 rfl rfl rfl rfl rfl rfl rfl rfl rfl ?_
    show pm_E _ _ _ 0 [(0, .ref 18), (1, .int _)] [] _ _ _ _
    refine pm_e_sim pm_a61_0 rfl ?_
    show pm_E _ _ _ 1 [(0, .ref 18), (1, .int _)] [.int _] _ _ _ _
    refine pm_e_sim pm_a61_1 rfl ?_
    show pm_E _ _ _ 2 [(0, .ref 18), (1, .int _)] [.long _] _ _ _ _
    refine pm_e_sim pm_a61_2 rfl ?_
    show pm_E _ _ _ 3 [(0, .ref 18), (1, .int _)] [.long _, .long _] _ _ _ _
    refine pm_e_sim pm_a61_3 rfl ?_
    show pm_E _ _ _ 4 [(0, .ref 18), (1, .int _)] [.ref 18, .long _, .long _] _ _ _ _
    refine pm_e_rd pm_a61_4 rfl rfl rfl ?_
    show pm_E _ _ _ 7 [(0, .ref 18), (1, .int _)] [.int 0, .long _, .long _] _ _ _ _
    refine pm_e_sim pm_a61_7 rfl ?_
    refine pm_e_top (y := 1) (by decide +kernel) ?_
    show pm_E _ _ _ 8 [(0, .ref 18), (1, .int _)] [.int 1, .int 0, .long _, .long _] _ _ _ _
    refine pm_e_sim pm_a61_8 rfl ?_
    refine pm_e_top (y := (-1)) (by decide +kernel) ?_
    show pm_E _ _ _ 9 [(0, .ref 18), (1, .int _)] [.int (-1), .long _, .long _] _ _ _ _
    refine pm_e_sim pm_a61_9 rfl ?_
    show pm_E _ _ _ 10 [(0, .ref 18), (1, .int _)] [.long _, .long _, .long _] _ _ _ _
    refine pm_e_call (T2 := pm_mm50) pm_a61_10 rfl rfl rfl rfl rfl rfl rfl rfl rfl ?_
    show pm_E _ _ _ 0 [(0, .long _), (2, .long _), (4, .long _)] [] _ _ _ _
    refine pm_e_sim pm_a50_0 rfl ?_
    show pm_E _ _ _ 1 [(0, .long _), (2, .long _), (4, .long _)] [.long _] _ _ _ _
    refine pm_e_sim pm_a50_1 rfl ?_
    show pm_E _ _ _ 2 [(0, .long _), (2, .long _), (4, .long _)] [.long _, .long _] _ _ _ _
    refine pm_e_sim pm_a50_2 rfl ?_
    show pm_E _ _ _ 3 [(0, .long _), (2, .long _), (4, .long _)] [.int _] _ _ _ _
    refine pm_e_iff pm_a50_3 rfl (pm_zl_eq 0 (by decide +kernel) (by omega) (by decide +kernel)) ?_
    show pm_E _ _ _ 6 [(0, .long _), (2, .long _), (4, .long _)] [] _ _ _ _
    refine pm_e_sim pm_a50_6 rfl ?_
    show pm_E _ _ _ 7 [(0, .long _), (2, .long _), (4, .long _)] [.long _] _ _ _ _
    refine pm_e_sim pm_a50_7 rfl ?_
    show pm_E _ _ _ 9 [(0, .long _), (2, .long _), (4, .long _)] [.long _, .long _] _ _ _ _
    refine pm_e_sim pm_a50_9 rfl ?_
    show pm_E _ _ _ 10 [(0, .long _), (2, .long _), (4, .long _)] [.int _] _ _ _ _
    refine pm_e_ift pm_a50_10 rfl (pm_zl_gt (-1) (by decide +kernel) (by omega) (by decide +kernel)) ?_
    show pm_E _ _ _ 17 [(0, .long _), (2, .long _), (4, .long _)] [] _ _ _ _
    refine pm_e_sim pm_a50_17 rfl ?_
    refine pm_e_top (y := 0) (by decide +kernel) ?_
    show pm_E _ _ _ 18 [(0, .long _), (2, .long _), (4, .long _)] [.int 0] _ _ _ _
    refine pm_e_ret pm_a50_18 rfl rfl rfl rfl rfl rfl rfl rfl ?_
    show pm_E _ _ _ 13 [(0, .ref 18), (1, .int _)] [.int 0] _ _ _ _
    refine pm_e_ret pm_a61_13 rfl rfl rfl rfl rfl rfl rfl rfl ?_
    show pm_E _ _ _ 5 [(0, .ref 18), (1, .int _)] [.int 0] _ _ _ _
    refine pm_e_iff pm_a65_5 rfl (by decide +kernel) ?_
    show pm_E _ _ _ 8 [(0, .ref 18), (1, .int _)] [] _ _ _ _
    refine pm_e_sim pm_a65_8 rfl ?_
    refine pm_e_top (y := (-1)) (by decide +kernel) ?_
    show pm_E _ _ _ 9 [(0, .ref 18), (1, .int _)] [.int (-1)] _ _ _ _
    refine pm_e_ret pm_a65_9 rfl rfl rfl rfl rfl rfl rfl rfl ?_
    show pm_E _ _ _ 392 [(3, .int 0), (2, .ref 18), (1, .ref 0), (0, .retAddr 0)] [.int (-1), .int (-1)] _ _ _ _
    refine pm_e_ict pm_a0_392 rfl (by decide +kernel) ?_
    show pm_E _ _ _ 779 [(3, .int 0), (2, .ref 18), (1, .ref 0), (0, .retAddr 0)] [] _ _ _ _
    refine pm_e_inc (y := 6) pm_a0_779 rfl (by decide +kernel) (by decide +kernel) rfl ?_
    show pm_E _ _ _ 782 [(3, .int 6), (2, .ref 18), (1, .ref 0), (0, .retAddr 0)] [] _ _ _ _
    refine pm_e_goto pm_a0_782 rfl ?_
    show pm_E _ _ _ 18 [(3, .int 6), (2, .ref 18), (1, .ref 0), (0, .retAddr 0)] [] _ _ _ _
    refine pm_e_sim pm_a0_18 rfl ?_
    show pm_E _ _ _ 19 [(3, .int 6), (2, .ref 18), (1, .ref 0), (0, .retAddr 0)] [.int 6] _ _ _ _
    refine pm_e_sim pm_a0_19 rfl ?_
    show pm_E _ _ _ 20 [(3, .int 6), (2, .ref 18), (1, .ref 0), (0, .retAddr 0)] [.retAddr 0, .int 6] _ _ _ _
    refine pm_e_rd pm_a0_20 rfl rfl rfl ?_
    dsimp only
    refine pm_e_top (y := 6) (by decide +kernel) ?_
    show pm_E _ _ _ 21 [(3, .int 6), (2, .ref 18), (1, .ref 0), (0, .retAddr 0)] [.int 6, .int 6] _ _ _ _
    refine pm_e_sim pm_a0_21 rfl ?_
    refine pm_e_top (y := 6) (by decide +kernel) ?_
    show pm_E _ _ _ 23 [(3, .int 6), (2, .ref 18), (1, .ref 0), (0, .retAddr 0)] [.int 6, .int 6, .int 6] _ _ _ _
    refine pm_e_sim pm_a0_23 rfl ?_
    refine pm_e_top (y := 0) (by decide +kernel) ?_
    show pm_E _ _ _ 24 [(3, .int 6), (2, .ref 18), (1, .ref 0), (0, .retAddr 0)] [.int 0, .int 6] _ _ _ _
    refine pm_e_ict pm_a0_24 rfl (by decide +kernel) ?_
    show pm_E _ _ _ 785 [(3, .int 6), (2, .ref 18), (1, .ref 0), (0, .retAddr 0)] [] _ _ _ _
    refine pm_e_sim pm_a0_785 rfl ?_
    refine pm_e_top (y := 1) (by decide +kernel) ?_
    show pm_E _ _ _ 786 [(3, .int 6), (2, .ref 18), (1, .ref 0), (0, .retAddr 0)] [.int 1] _ _ _ _
    refine pm_e_ret pm_a0_786 rfl rfl rfl rfl rfl rfl rfl rfl ?_
    exact hQ _ _ _ (by decide +kernel) (by decide +kernel)
  · refine pm_e_tsi (t := 374) pm_a0_33 rfl (by decide +kernel) ?_
    show pm_E _ _ _ 374 [(3, .int 0), (2, .ref 18), (1, .ref 0), (0, .retAddr 0)] [] _ _ _ _
    refine pm_e_sim pm_a0_374 rfl ?_
    show pm_E _ _ _ 375 [(3, .int 0), (2, .ref 18), (1, .ref 0), (0, .retAddr 0)] [.ref 0] _ _ _ _
    refine pm_e_sim pm_a0_375 rfl ?_
    show pm_E _ _ _ 376 [(3, .int 0), (2, .ref 18), (1, .ref 0), (0, .retAddr 0)] [.retAddr 0, .ref 0] _ _ _ _
    refine pm_e_sim pm_a0_376 rfl ?_
    show pm_E _ _ _ 377 [(3, .int 0), (2, .ref 18), (1, .ref 0), (0, .retAddr 0)] [.int 0, .retAddr 0, .ref 0] _ _ _ _
    refine pm_e_sim pm_a0_377 rfl ?_
    refine pm_e_top (y := 1) (by decide +kernel) ?_
    show pm_E _ _ _ 378 [(3, .int 0), (2, .ref 18), (1, .ref 0), (0, .retAddr 0)] [.int 1, .int 0, .retAddr 0, .ref 0] _ _ _ _
    refine pm_e_sim pm_a0_378 rfl ?_
    refine pm_e_top (y := 1) (by decide +kernel) ?_
    show pm_E _ _ _ 379 [(3, .int 0), (2, .ref 18), (1, .ref 0), (0, .retAddr 0)] [.int 1, .retAddr 0, .ref 0] _ _ _ _
    refine pm_e_sld (j := 1) pm_a0_379 (by decide +kernel) ?_
    show pm_E _ _ _ 380 [(3, .int 0), (2, .ref 18), (1, .ref 0), (0, .retAddr 0)] [.int _, .ref 0] _ _ _ _
    refine pm_e_call (T2 := pm_mm30) pm_a0_380 rfl rfl rfl rfl rfl rfl rfl rfl rfl ?_
    show pm_E _ _ _ 0 [(0, .ref 0), (1, .int _)] [] _ _ _ _
    refine pm_e_sim pm_a30_0 rfl ?_
    show pm_E _ _ _ 1 [(0, .ref 0), (1, .int _)] [.ref 0] _ _ _ _
    refine pm_e_sim pm_a30_1 rfl ?_
    show pm_E _ _ _ 2 [(0, .ref 0), (1, .int _)] [.int _, .ref 0] _ _ _ _
    refine pm_e_call (T2 := pm_mm26) pm_a30_2 rfl rfl rfl rfl rfl rfl rfl rfl rfl ?_
    show pm_E _ _ _ 0 [(0, .ref 0), (1, .int _)] [] _ _ _ _
    refine pm_e_sim pm_a26_0 rfl ?_
    show pm_E _ _ _ 1 [(0, .ref 0), (1, .int _)] [.int _] _ _ _ _
    refine pm_e_iff pm_a26_1 rfl (pm_z_lt_f 0 (by decide +kernel) (by omega)) ?_
    show pm_E _ _ _ 4 [(0, .ref 0), (1, .int _)] [] _ _ _ _
    refine pm_e_sim pm_a26_4 rfl ?_
    show pm_E _ _ _ 5 [(0, .ref 0), (1, .int _)] [.int _] _ _ _ _
    refine pm_e_sim pm_a26_5 rfl ?_
    show pm_E _ _ _ 6 [(0, .ref 0), (1, .int _)] [.ref 0, .int _] _ _ _ _
    refine pm_e_rd pm_a26_6 rfl rfl rfl ?_
    show pm_E _ _ _ 9 [(0, .ref 0), (1, .int _)] [.int 0, .int _] _ _ _ _
    refine pm_e_ict pm_a26_9 rfl (pm_z_ge_t 0 (by decide +kernel) (by omega)) ?_
    show pm_E _ _ _ 30 [(0, .ref 0), (1, .int _)] [] _ _ _ _
    refine pm_e_sim pm_a26_30 rfl ?_
    show pm_E _ _ _ 31 [(0, .ref 0), (1, .int _)] [.null] _ _ _ _
    refine pm_e_ret pm_a26_31 rfl rfl rfl rfl rfl rfl rfl rfl ?_
    show pm_E _ _ _ 5 [(0, .ref 0), (1, .int _)] [.null] _ _ _ _
    refine pm_e_sim pm_a30_5 rfl ?_
    show pm_E _ _ _ 6 [(2, .null), (0, .ref 0), (1, .int _)] [] _ _ _ _
    refine pm_e_sim pm_a30_6 rfl ?_
    show pm_E _ _ _ 7 [(2, .null), (0, .ref 0), (1, .int _)] [.null] _ _ _ _
    refine pm_e_jmp (pc2 := 10) pm_a30_7 rfl rfl ?_
    show pm_E _ _ _ 10 [(2, .null), (0, .ref 0), (1, .int _)] [] _ _ _ _
    refine pm_e_sim pm_a30_10 rfl ?_
    refine pm_e_top (y := (-1)) (by decide +kernel) ?_
    show pm_E _ _ _ 11 [(2, .null), (0, .ref 0), (1, .int _)] [.int (-1)] _ _ _ _
    refine pm_e_ret pm_a30_11 rfl rfl rfl rfl rfl rfl rfl rfl ?_
    show pm_E _ _ _ 383 [(3, .int 0), (2, .ref 18), (1, .ref 0), (0, .retAddr 0)] [.int (-1)] _ _ _ _
    refine pm_e_sim pm_a0_383 rfl ?_
    show pm_E _ _ _ 384 [(3, .int 0), (2, .ref 18), (1, .ref 0), (0, .retAddr 0)] [.ref 18, .int (-1)] _ _ _ _
    refine pm_e_sim pm_a0_384 rfl ?_
    show pm_E _ _ _ 385 [(3, .int 0), (2, .ref 18), (1, .ref 0), (0, .retAddr 0)] [.retAddr 0, .ref 18, .int (-1)] _ _ _ _
    refine pm_e_sim pm_a0_385 rfl ?_
    show pm_E _ _ _ 386 [(3, .int 0), (2, .ref 18), (1, .ref 0), (0, .retAddr 0)] [.int 0, .retAddr 0, .ref 18, .int (-1)] _ _ _ _
    refine pm_e_sim pm_a0_386 rfl ?_
    refine pm_e_top (y := 1) (by decide +kernel) ?_
    show pm_E _ _ _ 387 [(3, .int 0), (2, .ref 18), (1, .ref 0), (0, .retAddr 0)] [.int 1, .int 0, .retAddr 0, .ref 18, .int (-1)] _ _ _ _
    refine pm_e_sim pm_a0_387 rfl ?_
    refine pm_e_top (y := 1) (by decide +kernel) ?_
    show pm_E _ _ _ 388 [(3, .int 0), (2, .ref 18), (1, .ref 0), (0, .retAddr 0)] [.int 1, .retAddr 0, .ref 18, .int (-1)] _ _ _ _
    refine pm_e_sld (j := 1) pm_a0_388 (by decide +kernel) ?_
    show pm_E _ _ _ 389 [(3, .int 0), (2, .ref 18), (1, .ref 0), (0, .retAddr 0)] [.int _, .ref 18, .int (-1)] _ _ _ _
    refine pm_e_call (T2 := pm_mm65) pm_a0_389 rfl rfl rfl rfl rfl rfl rfl rfl rfl ?_
    show pm_E _ _ _ 0 [(0, .ref 18), (1, .int _)] [] _ _ _ _
    refine pm_e_sim pm_a65_0 rfl ?_
    show pm_E _ _ _ 1 [(0, .ref 18), (1, .int _)] [.ref 18] _ _ _ _
    refine pm_e_sim pm_a65_1 rfl ?_
    show pm_E _ _ _ 2 [(0, .ref 18), (1, .int _)] [.int _, .ref 18] _ _ _ _
    refine pm_e_call (T2 := pm_mm61) pm_a65_2 rfl rfl rfl rfl rfl rfl rfl rfl rfl ?_
    show pm_E _ _ _ 0 [(0, .ref 18), (1, .int _)] [] _ _ _ _
    refine pm_e_sim pm_a61_0 rfl ?_
    show pm_E _ _ _ 1 [(0, .ref 18), (1, .int _)] [.int _] _ _ _ _
    refine pm_e_sim pm_a61_1 rfl ?_
    show pm_E _ _ _ 2 [(0, .ref 18), (1, .int _)] [.long _] _ _ _ _
    refine pm_e_sim pm_a61_2 rfl ?_
    show pm_E _ _ _ 3 [(0, .ref 18), (1, .int _)] [.long _, .long _] _ _ _ _
    refine pm_e_sim pm_a61_3 rfl ?_
    show pm_E _ _ _ 4 [(0, .ref 18), (1, .int _)] [.ref 18, .long _, .long _] _ _ _ _
    refine pm_e_rd pm_a61_4 rfl rfl rfl ?_
    show pm_E _ _ _ 7 [(0, .ref 18), (1, .int _)] [.int 0, .long _, .long _] _ _ _ _
    refine pm_e_sim pm_a61_7 rfl ?_
    refine pm_e_top (y := 1) (by decide +kernel) ?_
    show pm_E _ _ _ 8 [(0, .ref 18), (1, .int _)] [.int 1, .int 0, .long _, .long _] _ _ _ _
    refine pm_e_sim pm_a61_8 rfl ?_
    refine pm_e_top (y := (-1)) (by decide +kernel) ?_
    show pm_E _ _ _ 9 [(0, .ref 18), (1, .int _)] [.int (-1), .long _, .long _] _ _ _ _
    refine pm_e_sim pm_a61_9 rfl ?_
    show pm_E _ _ _ 10 [(0, .ref 18), (1, .int _)] [.long _, .long _, .long _] _ _ _ _
    refine pm_e_call (T2 := pm_mm50) pm_a61_10 rfl rfl rfl rfl rfl rfl rfl rfl rfl ?_
    show pm_E _ _ _ 0 [(0, .long _), (2, .long _), (4, .long _)] [] _ _ _ _
    refine pm_e_sim pm_a50_0 rfl ?_
    show pm_E _ _ _ 1 [(0, .long _), (2, .long _), (4, .long _)] [.long _] _ _ _ _
    refine pm_e_sim pm_a50_1 rfl ?_
    show pm_E _ _ _ 2 [(0, .long _), (2, .long _), (4, .long _)] [.long _, .long _] _ _ _ _
    refine pm_e_sim pm_a50_2 rfl ?_
    show pm_E _ _ _ 3 [(0, .long _), (2, .long _), (4, .long _)] [.int _] _ _ _ _
    refine pm_e_iff pm_a50_3 rfl (pm_zl_gt 0 (by decide +kernel) (by omega) (by decide +kernel)) ?_
    show pm_E _ _ _ 6 [(0, .long _), (2, .long _), (4, .long _)] [] _ _ _ _
    refine pm_e_sim pm_a50_6 rfl ?_
    show pm_E _ _ _ 7 [(0, .long _), (2, .long _), (4, .long _)] [.long _] _ _ _ _
    refine pm_e_sim pm_a50_7 rfl ?_
    show pm_E _ _ _ 9 [(0, .long _), (2, .long _), (4, .long _)] [.long _, .long _] _ _ _ _
    refine pm_e_sim pm_a50_9 rfl ?_
    show pm_E _ _ _ 10 [(0, .long _), (2, .long _), (4, .long _)] [.int _] _ _ _ _
    refine pm_e_ift pm_a50_10 rfl (pm_zl_gt (-1) (by decide +kernel) (by omega) (by decide +kernel)) ?_
    show pm_E _ _ _ 17 [(0, .long _), (2, .long _), (4, .long _)] [] _ _ _ _
    refine pm_e_sim pm_a50_17 rfl ?_
    refine pm_e_top (y := 0) (by decide +kernel) ?_
    show pm_E _ _ _ 18 [(0, .long _), (2, .long _), (4, .long _)] [.int 0] _ _ _ _
    refine pm_e_ret pm_a50_18 rfl rfl rfl rfl rfl rfl rfl rfl ?_
    show pm_E _ _ _ 13 [(0, .ref 18), (1, .int _)] [.int 0] _ _ _ _
    refine pm_e_ret pm_a61_13 rfl rfl rfl rfl rfl rfl rfl rfl ?_
    show pm_E _ _ _ 5 [(0, .ref 18), (1, .int _)] [.int 0] _ _ _ _
    refine pm_e_iff pm_a65_5 rfl (by decide +kernel) ?_
    show pm_E _ _ _ 8 [(0, .ref 18), (1, .int _)] [] _ _ _ _
    refine pm_e_sim pm_a65_8 rfl ?_
    refine pm_e_top (y := (-1)) (by decide +kernel) ?_
    show pm_E _ _ _ 9 [(0, .ref 18), (1, .int _)] [.int (-1)] _ _ _ _
    refine pm_e_ret pm_a65_9 rfl rfl rfl rfl rfl rfl rfl rfl ?_
    show pm_E _ _ _ 392 [(3, .int 0), (2, .ref 18), (1, .ref 0), (0, .retAddr 0)] [.int (-1), .int (-1)] _ _ _ _
    refine pm_e_ict pm_a0_392 rfl (by decide +kernel) ?_
    show pm_E _ _ _ 779 [(3, .int 0), (2, .ref 18), (1, .ref 0), (0, .retAddr 0)] [] _ _ _ _
    refine pm_e_inc (y := 6) pm_a0_779 rfl (by decide +kernel) (by decide +kernel) rfl ?_
    show pm_E _ _ _ 782 [(3, .int 6), (2, .ref 18), (1, .ref 0), (0, .retAddr 0)] [] _ _ _ _
    refine pm_e_goto pm_a0_782 rfl ?_
    show pm_E _ _ _ 18 [(3, .int 6), (2, .ref 18), (1, .ref 0), (0, .retAddr 0)] [] _ _ _ _
    refine pm_e_sim pm_a0_18 rfl ?_
    show pm_E _ _ _ 19 [(3, .int 6), (2, .ref 18), (1, .ref 0), (0, .retAddr 0)] [.int 6] _ _ _ _
    refine pm_e_sim pm_a0_19 rfl ?_
    show pm_E _ _ _ 20 [(3, .int 6), (2, .ref 18), (1, .ref 0), (0, .retAddr 0)] [.retAddr 0, .int 6] _ _ _ _
    refine pm_e_rd pm_a0_20 rfl rfl rfl ?_
    dsimp only
    refine pm_e_top (y := 6) (by decide +kernel) ?_
    show pm_E _ _ _ 21 [(3, .int 6), (2, .ref 18), (1, .ref 0), (0, .retAddr 0)] [.int 6, .int 6] _ _ _ _
    refine pm_e_sim pm_a0_21 rfl ?_
    refine pm_e_top (y := 6) (by decide +kernel) ?_
    show pm_E _ _ _ 23 [(3, .int 6), (2, .ref 18), (1, .ref 0), (0, .retAddr 0)] [.int 6, .int 6, .int 6] _ _ _ _
    refine pm_e_sim pm_a0_23 rfl ?_
    refine pm_e_top (y := 0) (by decide +kernel) ?_
    show pm_E _ _ _ 24 [(3, .int 6), (2, .ref 18), (1, .ref 0), (0, .retAddr 0)] [.int 0, .int 6] _ _ _ _
    refine pm_e_ict pm_a0_24 rfl (by decide +kernel) ?_
    show pm_E _ _ _ 785 [(3, .int 6), (2, .ref 18), (1, .ref 0), (0, .retAddr 0)] [] _ _ _ _
    refine pm_e_sim pm_a0_785 rfl ?_
    refine pm_e_top (y := 1) (by decide +kernel) ?_
    show pm_E _ _ _ 786 [(3, .int 6), (2, .ref 18), (1, .ref 0), (0, .retAddr 0)] [.int 1] _ _ _ _
    refine pm_e_ret pm_a0_786 rfl rfl rfl rfl rfl rfl rfl rfl ?_
    exact hQ _ _ _ (by decide +kernel) (by decide +kernel)
set_option maxHeartbeats 40000000 in
set_option maxRecDepth 200000 in
theorem pm_op9 (xs : Nat → Int32) {Q : Option Value → List va_E → Nat → Nat → Prop} (hQ : ∀ ph c n, c ≤ 600000 → n ≤ 7302250 → Q (some (.int 1)) ph c n) : pm_E (some (6, xs)) 11 pm_mm0 33 pm_L0 [.int (nI 9)] pm_H0 50 194358 Q := by
  refine pm_e_top (y := 9) (by decide +kernel) ?_
  rcases (show (xs 1).toInt < 0 ∨ (xs 1).toInt = 0 ∨ 0 < (xs 1).toInt by omega) with h1 | h1 | h1
  · rcases (show (xs 2).toInt < 0 ∨ 0 ≤ (xs 2).toInt by omega) with h2 | h2
    · refine pm_e_tsi (t := 397) pm_a0_33 rfl (by decide +kernel) ?_
      show pm_E _ _ _ 397 [(3, .int 0), (2, .ref 18), (1, .ref 0), (0, .retAddr 0)] [] _ _ _ _
      refine pm_e_sim pm_a0_397 rfl ?_
      show pm_E _ _ _ 398 [(3, .int 0), (2, .ref 18), (1, .ref 0), (0, .retAddr 0)] [.ref 0] _ _ _ _
      refine pm_e_sim pm_a0_398 rfl ?_
      show pm_E _ _ _ 399 [(3, .int 0), (2, .ref 18), (1, .ref 0), (0, .retAddr 0)] [.retAddr 0, .ref 0] _ _ _ _
      refine pm_e_sim pm_a0_399 rfl ?_
      show pm_E _ _ _ 400 [(3, .int 0), (2, .ref 18), (1, .ref 0), (0, .retAddr 0)] [.int 0, .retAddr 0, .ref 0] _ _ _ _
      refine pm_e_sim pm_a0_400 rfl ?_
      refine pm_e_top (y := 1) (by decide +kernel) ?_
      show pm_E _ _ _ 401 [(3, .int 0), (2, .ref 18), (1, .ref 0), (0, .retAddr 0)] [.int 1, .int 0, .retAddr 0, .ref 0] _ _ _ _
      refine pm_e_sim pm_a0_401 rfl ?_
      refine pm_e_top (y := 1) (by decide +kernel) ?_
      show pm_E _ _ _ 402 [(3, .int 0), (2, .ref 18), (1, .ref 0), (0, .retAddr 0)] [.int 1, .retAddr 0, .ref 0] _ _ _ _
      refine pm_e_sld (j := 1) pm_a0_402 (by decide +kernel) ?_
      show pm_E _ _ _ 403 [(3, .int 0), (2, .ref 18), (1, .ref 0), (0, .retAddr 0)] [.int _, .ref 0] _ _ _ _
      refine pm_e_sim pm_a0_403 rfl ?_
      show pm_E _ _ _ 404 [(3, .int 0), (2, .ref 18), (1, .ref 0), (0, .retAddr 0)] [.retAddr 0, .int _, .ref 0] _ _ _ _
      refine pm_e_sim pm_a0_404 rfl ?_
      show pm_E _ _ _ 405 [(3, .int 0), (2, .ref 18), (1, .ref 0), (0, .retAddr 0)] [.int 0, .retAddr 0, .int _, .ref 0] _ _ _ _
      refine pm_e_sim pm_a0_405 rfl ?_
      refine pm_e_top (y := 2) (by decide +kernel) ?_
      show pm_E _ _ _ 406 [(3, .int 0), (2, .ref 18), (1, .ref 0), (0, .retAddr 0)] [.int 2, .int 0, .retAddr 0, .int _, .ref 0] _ _ _ _
      refine pm_e_sim pm_a0_406 rfl ?_
      refine pm_e_top (y := 2) (by decide +kernel) ?_
      show pm_E _ _ _ 407 [(3, .int 0), (2, .ref 18), (1, .ref 0), (0, .retAddr 0)] [.int 2, .retAddr 0, .int _, .ref 0] _ _ _ _
      refine pm_e_sld (j := 2) pm_a0_407 (by decide +kernel) ?_
      show pm_E _ _ _ 408 [(3, .int 0), (2, .ref 18), (1, .ref 0), (0, .retAddr 0)] [.int _, .int _, .ref 0] _ _ _ _
      refine pm_e_call (T2 := pm_mm31) pm_a0_408 rfl rfl rfl rfl rfl rfl rfl rfl rfl ?_
      show pm_E _ _ _ 0 [(0, .ref 0), (1, .int _), (2, .int _)] [] _ _ _ _
      refine pm_e_sim pm_a31_0 rfl ?_
      show pm_E _ _ _ 1 [(0, .ref 0), (1, .int _), (2, .int _)] [.ref 0] _ _ _ _
      refine pm_e_sim pm_a31_1 rfl ?_
      show pm_E _ _ _ 2 [(0, .ref 0), (1, .int _), (2, .int _)] [.int _, .ref 0] _ _ _ _
      refine pm_e_call (T2 := pm_mm26) pm_a31_2 rfl rfl rfl rfl rfl rfl rfl rfl rfl ?_
      show pm_E _ _ _ 0 [(0, .ref 0), (1, .int _)] [] _ _ _ _
      refine pm_e_sim pm_a26_0 rfl ?_
      show pm_E _ _ _ 1 [(0, .ref 0), (1, .int _)] [.int _] _ _ _ _
      refine pm_e_ift pm_a26_1 rfl (pm_z_lt_t 0 (by decide +kernel) (by omega)) ?_
      show pm_E _ _ _ 30 [(0, .ref 0), (1, .int _)] [] _ _ _ _
      refine pm_e_sim pm_a26_30 rfl ?_
      show pm_E _ _ _ 31 [(0, .ref 0), (1, .int _)] [.null] _ _ _ _
      refine pm_e_ret pm_a26_31 rfl rfl rfl rfl rfl rfl rfl rfl ?_
      show pm_E _ _ _ 5 [(0, .ref 0), (1, .int _), (2, .int _)] [.null] _ _ _ _
      refine pm_e_sim pm_a31_5 rfl ?_
      show pm_E _ _ _ 6 [(3, .null), (0, .ref 0), (1, .int _), (2, .int _)] [] _ _ _ _
      refine pm_e_sim pm_a31_6 rfl ?_
      show pm_E _ _ _ 7 [(3, .null), (0, .ref 0), (1, .int _), (2, .int _)] [.ref 0] _ _ _ _
      refine pm_e_sim pm_a31_7 rfl ?_
      show pm_E _ _ _ 8 [(3, .null), (0, .ref 0), (1, .int _), (2, .int _)] [.int _, .ref 0] _ _ _ _
      refine pm_e_call (T2 := pm_mm26) pm_a31_8 rfl rfl rfl rfl rfl rfl rfl rfl rfl ?_
      show pm_E _ _ _ 0 [(0, .ref 0), (1, .int _)] [] _ _ _ _
      refine pm_e_sim pm_a26_0 rfl ?_
      show pm_E _ _ _ 1 [(0, .ref 0), (1, .int _)] [.int _] _ _ _ _
      refine pm_e_ift pm_a26_1 rfl (pm_z_lt_t 0 (by decide +kernel) (by omega)) ?_
      show pm_E _ _ _ 30 [(0, .ref 0), (1, .int _)] [] _ _ _ _
      refine pm_e_sim pm_a26_30 rfl ?_
      show pm_E _ _ _ 31 [(0, .ref 0), (1, .int _)] [.null] _ _ _ _
      refine pm_e_ret pm_a26_31 rfl rfl rfl rfl rfl rfl rfl rfl ?_
      show pm_E _ _ _ 11 [(3, .null), (0, .ref 0), (1, .int _), (2, .int _)] [.null] _ _ _ _
      refine pm_e_sim pm_a31_11 rfl ?_
      show pm_E _ _ _ 13 [(4, .null), (3, .null), (0, .ref 0), (1, .int _), (2, .int _)] [] _ _ _ _
      refine pm_e_sim pm_a31_13 rfl ?_
      show pm_E _ _ _ 14 [(4, .null), (3, .null), (0, .ref 0), (1, .int _), (2, .int _)] [.null] _ _ _ _
      refine pm_e_jmp (pc2 := 22) pm_a31_14 rfl rfl ?_
      show pm_E _ _ _ 22 [(4, .null), (3, .null), (0, .ref 0), (1, .int _), (2, .int _)] [] _ _ _ _
      refine pm_e_sim pm_a31_22 rfl ?_
      refine pm_e_top (y := (-1)) (by decide +kernel) ?_
      show pm_E _ _ _ 23 [(4, .null), (3, .null), (0, .ref 0), (1, .int _), (2, .int _)] [.int (-1)] _ _ _ _
      refine pm_e_ret pm_a31_23 rfl rfl rfl rfl rfl rfl rfl rfl ?_
      show pm_E _ _ _ 411 [(3, .int 0), (2, .ref 18), (1, .ref 0), (0, .retAddr 0)] [.int (-1)] _ _ _ _
      refine pm_e_sim pm_a0_411 rfl ?_
      show pm_E _ _ _ 412 [(3, .int 0), (2, .ref 18), (1, .ref 0), (0, .retAddr 0)] [.ref 18, .int (-1)] _ _ _ _
      refine pm_e_sim pm_a0_412 rfl ?_
      show pm_E _ _ _ 413 [(3, .int 0), (2, .ref 18), (1, .ref 0), (0, .retAddr 0)] [.retAddr 0, .ref 18, .int (-1)] _ _ _ _
      refine pm_e_sim pm_a0_413 rfl ?_
      show pm_E _ _ _ 414 [(3, .int 0), (2, .ref 18), (1, .ref 0), (0, .retAddr 0)] [.int 0, .retAddr 0, .ref 18, .int (-1)] _ _ _ _
      refine pm_e_sim pm_a0_414 rfl ?_
      refine pm_e_top (y := 1) (by decide +kernel) ?_
      show pm_E _ _ _ 415 [(3, .int 0), (2, .ref 18), (1, .ref 0), (0, .retAddr 0)] [.int 1, .int 0, .retAddr 0, .ref 18, .int (-1)] _ _ _ _
      refine pm_e_sim pm_a0_415 rfl ?_
      refine pm_e_top (y := 1) (by decide +kernel) ?_
      show pm_E _ _ _ 416 [(3, .int 0), (2, .ref 18), (1, .ref 0), (0, .retAddr 0)] [.int 1, .retAddr 0, .ref 18, .int (-1)] _ _ _ _
      refine pm_e_sld (j := 1) pm_a0_416 (by decide +kernel) ?_
      show pm_E _ _ _ 417 [(3, .int 0), (2, .ref 18), (1, .ref 0), (0, .retAddr 0)] [.int _, .ref 18, .int (-1)] _ _ _ _
      refine pm_e_sim pm_a0_417 rfl ?_
      show pm_E _ _ _ 418 [(3, .int 0), (2, .ref 18), (1, .ref 0), (0, .retAddr 0)] [.retAddr 0, .int _, .ref 18, .int (-1)] _ _ _ _
      refine pm_e_sim pm_a0_418 rfl ?_
      show pm_E _ _ _ 419 [(3, .int 0), (2, .ref 18), (1, .ref 0), (0, .retAddr 0)] [.int 0, .retAddr 0, .int _, .ref 18, .int (-1)] _ _ _ _
      refine pm_e_sim pm_a0_419 rfl ?_
      refine pm_e_top (y := 2) (by decide +kernel) ?_
      show pm_E _ _ _ 420 [(3, .int 0), (2, .ref 18), (1, .ref 0), (0, .retAddr 0)] [.int 2, .int 0, .retAddr 0, .int _, .ref 18, .int (-1)] _ _ _ _
      refine pm_e_sim pm_a0_420 rfl ?_
      refine pm_e_top (y := 2) (by decide +kernel) ?_
      show pm_E _ _ _ 421 [(3, .int 0), (2, .ref 18), (1, .ref 0), (0, .retAddr 0)] [.int 2, .retAddr 0, .int _, .ref 18, .int (-1)] _ _ _ _
      refine pm_e_sld (j := 2) pm_a0_421 (by decide +kernel) ?_
      show pm_E _ _ _ 422 [(3, .int 0), (2, .ref 18), (1, .ref 0), (0, .retAddr 0)] [.int _, .int _, .ref 18, .int (-1)] _ _ _ _
      refine pm_e_call (T2 := pm_mm66) pm_a0_422 rfl rfl rfl rfl rfl rfl rfl rfl rfl ?_
      show pm_E _ _ _ 0 [(0, .ref 18), (1, .int _), (2, .int _)] [] _ _ _ _
      refine pm_e_sim pm_a66_0 rfl ?_
      show pm_E _ _ _ 1 [(0, .ref 18), (1, .int _), (2, .int _)] [.ref 18] _ _ _ _
      refine pm_e_sim pm_a66_1 rfl ?_
      show pm_E _ _ _ 2 [(0, .ref 18), (1, .int _), (2, .int _)] [.int _, .ref 18] _ _ _ _
      refine pm_e_call (T2 := pm_mm61) pm_a66_2 rfl rfl rfl rfl rfl rfl rfl rfl rfl ?_
      show pm_E _ _ _ 0 [(0, .ref 18), (1, .int _)] [] _ _ _ _
      refine pm_e_sim pm_a61_0 rfl ?_
      show pm_E _ _ _ 1 [(0, .ref 18), (1, .int _)] [.int _] _ _ _ _
      refine pm_e_sim pm_a61_1 rfl ?_
      show pm_E _ _ _ 2 [(0, .ref 18), (1, .int _)] [.long _] _ _ _ _
      refine pm_e_sim pm_a61_2 rfl ?_
      show pm_E _ _ _ 3 [(0, .ref 18), (1, .int _)] [.long _, .long _] _ _ _ _
      refine pm_e_sim pm_a61_3 rfl ?_
      show pm_E _ _ _ 4 [(0, .ref 18), (1, .int _)] [.ref 18, .long _, .long _] _ _ _ _
      refine pm_e_rd pm_a61_4 rfl rfl rfl ?_
      show pm_E _ _ _ 7 [(0, .ref 18), (1, .int _)] [.int 0, .long _, .long _] _ _ _ _
      refine pm_e_sim pm_a61_7 rfl ?_
      refine pm_e_top (y := 1) (by decide +kernel) ?_
      show pm_E _ _ _ 8 [(0, .ref 18), (1, .int _)] [.int 1, .int 0, .long _, .long _] _ _ _ _
      refine pm_e_sim pm_a61_8 rfl ?_
      refine pm_e_top (y := (-1)) (by decide +kernel) ?_
      show pm_E _ _ _ 9 [(0, .ref 18), (1, .int _)] [.int (-1), .long _, .long _] _ _ _ _
      refine pm_e_sim pm_a61_9 rfl ?_
      show pm_E _ _ _ 10 [(0, .ref 18), (1, .int _)] [.long _, .long _, .long _] _ _ _ _
      refine pm_e_call (T2 := pm_mm50) pm_a61_10 rfl rfl rfl rfl rfl rfl rfl rfl rfl ?_
      show pm_E _ _ _ 0 [(0, .long _), (2, .long _), (4, .long _)] [] _ _ _ _
      refine pm_e_sim pm_a50_0 rfl ?_
      show pm_E _ _ _ 1 [(0, .long _), (2, .long _), (4, .long _)] [.long _] _ _ _ _
      refine pm_e_sim pm_a50_1 rfl ?_
      show pm_E _ _ _ 2 [(0, .long _), (2, .long _), (4, .long _)] [.long _, .long _] _ _ _ _
      refine pm_e_sim pm_a50_2 rfl ?_
      show pm_E _ _ _ 3 [(0, .long _), (2, .long _), (4, .long _)] [.int _] _ _ _ _
      refine pm_e_ift pm_a50_3 rfl (pm_zl_lt 0 (by decide +kernel) (by omega) (by decide +kernel)) ?_
      show pm_E _ _ _ 17 [(0, .long _), (2, .long _), (4, .long _)] [] _ _ _ _
      refine pm_e_sim pm_a50_17 rfl ?_
      refine pm_e_top (y := 0) (by decide +kernel) ?_
      show pm_E _ _ _ 18 [(0, .long _), (2, .long _), (4, .long _)] [.int 0] _ _ _ _
      refine pm_e_ret pm_a50_18 rfl rfl rfl rfl rfl rfl rfl rfl ?_
      show pm_E _ _ _ 13 [(0, .ref 18), (1, .int _)] [.int 0] _ _ _ _
      refine pm_e_ret pm_a61_13 rfl rfl rfl rfl rfl rfl rfl rfl ?_
      show pm_E _ _ _ 5 [(0, .ref 18), (1, .int _), (2, .int _)] [.int 0] _ _ _ _
      refine pm_e_ift pm_a66_5 rfl (by decide +kernel) ?_
      show pm_E _ _ _ 16 [(0, .ref 18), (1, .int _), (2, .int _)] [] _ _ _ _
      refine pm_e_sim pm_a66_16 rfl ?_
      refine pm_e_top (y := (-1)) (by decide +kernel) ?_
      show pm_E _ _ _ 17 [(0, .ref 18), (1, .int _), (2, .int _)] [.int (-1)] _ _ _ _
      refine pm_e_ret pm_a66_17 rfl rfl rfl rfl rfl rfl rfl rfl ?_
      show pm_E _ _ _ 425 [(3, .int 0), (2, .ref 18), (1, .ref 0), (0, .retAddr 0)] [.int (-1), .int (-1)] _ _ _ _
      refine pm_e_ict pm_a0_425 rfl (by decide +kernel) ?_
      show pm_E _ _ _ 779 [(3, .int 0), (2, .ref 18), (1, .ref 0), (0, .retAddr 0)] [] _ _ _ _
      refine pm_e_inc (y := 6) pm_a0_779 rfl (by decide +kernel) (by decide +kernel) rfl ?_
      show pm_E _ _ _ 782 [(3, .int 6), (2, .ref 18), (1, .ref 0), (0, .retAddr 0)] [] _ _ _ _
      refine pm_e_goto pm_a0_782 rfl ?_
      show pm_E _ _ _ 18 [(3, .int 6), (2, .ref 18), (1, .ref 0), (0, .retAddr 0)] [] _ _ _ _
      refine pm_e_sim pm_a0_18 rfl ?_
      show pm_E _ _ _ 19 [(3, .int 6), (2, .ref 18), (1, .ref 0), (0, .retAddr 0)] [.int 6] _ _ _ _
      refine pm_e_sim pm_a0_19 rfl ?_
      show pm_E _ _ _ 20 [(3, .int 6), (2, .ref 18), (1, .ref 0), (0, .retAddr 0)] [.retAddr 0, .int 6] _ _ _ _
      refine pm_e_rd pm_a0_20 rfl rfl rfl ?_
      dsimp only
      refine pm_e_top (y := 6) (by decide +kernel) ?_
      show pm_E _ _ _ 21 [(3, .int 6), (2, .ref 18), (1, .ref 0), (0, .retAddr 0)] [.int 6, .int 6] _ _ _ _
      refine pm_e_sim pm_a0_21 rfl ?_
      refine pm_e_top (y := 6) (by decide +kernel) ?_
      show pm_E _ _ _ 23 [(3, .int 6), (2, .ref 18), (1, .ref 0), (0, .retAddr 0)] [.int 6, .int 6, .int 6] _ _ _ _
      refine pm_e_sim pm_a0_23 rfl ?_
      refine pm_e_top (y := 0) (by decide +kernel) ?_
      show pm_E _ _ _ 24 [(3, .int 6), (2, .ref 18), (1, .ref 0), (0, .retAddr 0)] [.int 0, .int 6] _ _ _ _
      refine pm_e_ict pm_a0_24 rfl (by decide +kernel) ?_
      show pm_E _ _ _ 785 [(3, .int 6), (2, .ref 18), (1, .ref 0), (0, .retAddr 0)] [] _ _ _ _
      refine pm_e_sim pm_a0_785 rfl ?_
      refine pm_e_top (y := 1) (by decide +kernel) ?_
      show pm_E _ _ _ 786 [(3, .int 6), (2, .ref 18), (1, .ref 0), (0, .retAddr 0)] [.int 1] _ _ _ _
      refine pm_e_ret pm_a0_786 rfl rfl rfl rfl rfl rfl rfl rfl ?_
      exact hQ _ _ _ (by decide +kernel) (by decide +kernel)
    · refine pm_e_tsi (t := 397) pm_a0_33 rfl (by decide +kernel) ?_
      show pm_E _ _ _ 397 [(3, .int 0), (2, .ref 18), (1, .ref 0), (0, .retAddr 0)] [] _ _ _ _
      refine pm_e_sim pm_a0_397 rfl ?_
      show pm_E _ _ _ 398 [(3, .int 0), (2, .ref 18), (1, .ref 0), (0, .retAddr 0)] [.ref 0] _ _ _ _
      refine pm_e_sim pm_a0_398 rfl ?_
      show pm_E _ _ _ 399 [(3, .int 0), (2, .ref 18), (1, .ref 0), (0, .retAddr 0)] [.retAddr 0, .ref 0] _ _ _ _
      refine pm_e_sim pm_a0_399 rfl ?_
      show pm_E _ _ _ 400 [(3, .int 0), (2, .ref 18), (1, .ref 0), (0, .retAddr 0)] [.int 0, .retAddr 0, .ref 0] _ _ _ _
      refine pm_e_sim pm_a0_400 rfl ?_
      refine pm_e_top (y := 1) (by decide +kernel) ?_
      show pm_E _ _ _ 401 [(3, .int 0), (2, .ref 18), (1, .ref 0), (0, .retAddr 0)] [.int 1, .int 0, .retAddr 0, .ref 0] _ _ _ _
      refine pm_e_sim pm_a0_401 rfl ?_
      refine pm_e_top (y := 1) (by decide +kernel) ?_
      show pm_E _ _ _ 402 [(3, .int 0), (2, .ref 18), (1, .ref 0), (0, .retAddr 0)] [.int 1, .retAddr 0, .ref 0] _ _ _ _
      refine pm_e_sld (j := 1) pm_a0_402 (by decide +kernel) ?_
      show pm_E _ _ _ 403 [(3, .int 0), (2, .ref 18), (1, .ref 0), (0, .retAddr 0)] [.int _, .ref 0] _ _ _ _
      refine pm_e_sim pm_a0_403 rfl ?_
      show pm_E _ _ _ 404 [(3, .int 0), (2, .ref 18), (1, .ref 0), (0, .retAddr 0)] [.retAddr 0, .int _, .ref 0] _ _ _ _
      refine pm_e_sim pm_a0_404 rfl ?_
      show pm_E _ _ _ 405 [(3, .int 0), (2, .ref 18), (1, .ref 0), (0, .retAddr 0)] [.int 0, .retAddr 0, .int _, .ref 0] _ _ _ _
      refine pm_e_sim pm_a0_405 rfl ?_
      refine pm_e_top (y := 2) (by decide +kernel) ?_
      show pm_E _ _ _ 406 [(3, .int 0), (2, .ref 18), (1, .ref 0), (0, .retAddr 0)] [.int 2, .int 0, .retAddr 0, .int _, .ref 0] _ _ _ _
      refine pm_e_sim pm_a0_406 rfl ?_
      refine pm_e_top (y := 2) (by decide +kernel) ?_
      show pm_E _ _ _ 407 [(3, .int 0), (2, .ref 18), (1, .ref 0), (0, .retAddr 0)] [.int 2, .retAddr 0, .int _, .ref 0] _ _ _ _
      refine pm_e_sld (j := 2) pm_a0_407 (by decide +kernel) ?_
      show pm_E _ _ _ 408 [(3, .int 0), (2, .ref 18), (1, .ref 0), (0, .retAddr 0)] [.int _, .int _, .ref 0] _ _ _ _
      refine pm_e_call (T2 := pm_mm31) pm_a0_408 rfl rfl rfl rfl rfl rfl rfl rfl rfl ?_
      show pm_E _ _ _ 0 [(0, .ref 0), (1, .int _), (2, .int _)] [] _ _ _ _
      refine pm_e_sim pm_a31_0 rfl ?_
      show pm_E _ _ _ 1 [(0, .ref 0), (1, .int _), (2, .int _)] [.ref 0] _ _ _ _
      refine pm_e_sim pm_a31_1 rfl ?_
      show pm_E _ _ _ 2 [(0, .ref 0), (1, .int _), (2, .int _)] [.int _, .ref 0] _ _ _ _
      refine pm_e_call (T2 := pm_mm26) pm_a31_2 rfl rfl rfl rfl rfl rfl rfl rfl rfl ?_
      show pm_E _ _ _ 0 [(0, .ref 0), (1, .int _)] [] _ _ _ _
      refine pm_e_sim pm_a26_0 rfl ?_
      show pm_E _ _ _ 1 [(0, .ref 0), (1, .int _)] [.int _] _ _ _ _
      refine pm_e_ift pm_a26_1 rfl (pm_z_lt_t 0 (by decide +kernel) (by omega)) ?_
      show pm_E _ _ _ 30 [(0, .ref 0), (1, .int _)] [] _ _ _ _
      refine pm_e_sim pm_a26_30 rfl ?_
      show pm_E _ _ _ 31 [(0, .ref 0), (1, .int _)] [.null] _ _ _ _
      refine pm_e_ret pm_a26_31 rfl rfl rfl rfl rfl rfl rfl rfl ?_
      show pm_E _ _ _ 5 [(0, .ref 0), (1, .int _), (2, .int _)] [.null] _ _ _ _
      refine pm_e_sim pm_a31_5 rfl ?_
      show pm_E _ _ _ 6 [(3, .null), (0, .ref 0), (1, .int _), (2, .int _)] [] _ _ _ _
      refine pm_e_sim pm_a31_6 rfl ?_
      show pm_E _ _ _ 7 [(3, .null), (0, .ref 0), (1, .int _), (2, .int _)] [.ref 0] _ _ _ _
      refine pm_e_sim pm_a31_7 rfl ?_
      show pm_E _ _ _ 8 [(3, .null), (0, .ref 0), (1, .int _), (2, .int _)] [.int _, .ref 0] _ _ _ _
      refine pm_e_call (T2 := pm_mm26) pm_a31_8 rfl rfl rfl rfl rfl rfl rfl rfl rfl ?_
      show pm_E _ _ _ 0 [(0, .ref 0), (1, .int _)] [] _ _ _ _
      refine pm_e_sim pm_a26_0 rfl ?_
      show pm_E _ _ _ 1 [(0, .ref 0), (1, .int _)] [.int _] _ _ _ _
      refine pm_e_iff pm_a26_1 rfl (pm_z_lt_f 0 (by decide +kernel) (by omega)) ?_
      show pm_E _ _ _ 4 [(0, .ref 0), (1, .int _)] [] _ _ _ _
      refine pm_e_sim pm_a26_4 rfl ?_
      show pm_E _ _ _ 5 [(0, .ref 0), (1, .int _)] [.int _] _ _ _ _
      refine pm_e_sim pm_a26_5 rfl ?_
      show pm_E _ _ _ 6 [(0, .ref 0), (1, .int _)] [.ref 0, .int _] _ _ _ _
      refine pm_e_rd pm_a26_6 rfl rfl rfl ?_
      show pm_E _ _ _ 9 [(0, .ref 0), (1, .int _)] [.int 0, .int _] _ _ _ _
      refine pm_e_ict pm_a26_9 rfl (pm_z_ge_t 0 (by decide +kernel) (by omega)) ?_
      show pm_E _ _ _ 30 [(0, .ref 0), (1, .int _)] [] _ _ _ _
      refine pm_e_sim pm_a26_30 rfl ?_
      show pm_E _ _ _ 31 [(0, .ref 0), (1, .int _)] [.null] _ _ _ _
      refine pm_e_ret pm_a26_31 rfl rfl rfl rfl rfl rfl rfl rfl ?_
      show pm_E _ _ _ 11 [(3, .null), (0, .ref 0), (1, .int _), (2, .int _)] [.null] _ _ _ _
      refine pm_e_sim pm_a31_11 rfl ?_
      show pm_E _ _ _ 13 [(4, .null), (3, .null), (0, .ref 0), (1, .int _), (2, .int _)] [] _ _ _ _
      refine pm_e_sim pm_a31_13 rfl ?_
      show pm_E _ _ _ 14 [(4, .null), (3, .null), (0, .ref 0), (1, .int _), (2, .int _)] [.null] _ _ _ _
      refine pm_e_jmp (pc2 := 22) pm_a31_14 rfl rfl ?_
      show pm_E _ _ _ 22 [(4, .null), (3, .null), (0, .ref 0), (1, .int _), (2, .int _)] [] _ _ _ _
      refine pm_e_sim pm_a31_22 rfl ?_
      refine pm_e_top (y := (-1)) (by decide +kernel) ?_
      show pm_E _ _ _ 23 [(4, .null), (3, .null), (0, .ref 0), (1, .int _), (2, .int _)] [.int (-1)] _ _ _ _
      refine pm_e_ret pm_a31_23 rfl rfl rfl rfl rfl rfl rfl rfl ?_
      show pm_E _ _ _ 411 [(3, .int 0), (2, .ref 18), (1, .ref 0), (0, .retAddr 0)] [.int (-1)] _ _ _ _
      refine pm_e_sim pm_a0_411 rfl ?_
      show pm_E _ _ _ 412 [(3, .int 0), (2, .ref 18), (1, .ref 0), (0, .retAddr 0)] [.ref 18, .int (-1)] _ _ _ _
      refine pm_e_sim pm_a0_412 rfl ?_
      show pm_E _ _ _ 413 [(3, .int 0), (2, .ref 18), (1, .ref 0), (0, .retAddr 0)] [.retAddr 0, .ref 18, .int (-1)] _ _ _ _
      refine pm_e_sim pm_a0_413 rfl ?_
      show pm_E _ _ _ 414 [(3, .int 0), (2, .ref 18), (1, .ref 0), (0, .retAddr 0)] [.int 0, .retAddr 0, .ref 18, .int (-1)] _ _ _ _
      refine pm_e_sim pm_a0_414 rfl ?_
      refine pm_e_top (y := 1) (by decide +kernel) ?_
      show pm_E _ _ _ 415 [(3, .int 0), (2, .ref 18), (1, .ref 0), (0, .retAddr 0)] [.int 1, .int 0, .retAddr 0, .ref 18, .int (-1)] _ _ _ _
      refine pm_e_sim pm_a0_415 rfl ?_
      refine pm_e_top (y := 1) (by decide +kernel) ?_
      show pm_E _ _ _ 416 [(3, .int 0), (2, .ref 18), (1, .ref 0), (0, .retAddr 0)] [.int 1, .retAddr 0, .ref 18, .int (-1)] _ _ _ _
      refine pm_e_sld (j := 1) pm_a0_416 (by decide +kernel) ?_
      show pm_E _ _ _ 417 [(3, .int 0), (2, .ref 18), (1, .ref 0), (0, .retAddr 0)] [.int _, .ref 18, .int (-1)] _ _ _ _
      refine pm_e_sim pm_a0_417 rfl ?_
      show pm_E _ _ _ 418 [(3, .int 0), (2, .ref 18), (1, .ref 0), (0, .retAddr 0)] [.retAddr 0, .int _, .ref 18, .int (-1)] _ _ _ _
      refine pm_e_sim pm_a0_418 rfl ?_
      show pm_E _ _ _ 419 [(3, .int 0), (2, .ref 18), (1, .ref 0), (0, .retAddr 0)] [.int 0, .retAddr 0, .int _, .ref 18, .int (-1)] _ _ _ _
      refine pm_e_sim pm_a0_419 rfl ?_
      refine pm_e_top (y := 2) (by decide +kernel) ?_
      show pm_E _ _ _ 420 [(3, .int 0), (2, .ref 18), (1, .ref 0), (0, .retAddr 0)] [.int 2, .int 0, .retAddr 0, .int _, .ref 18, .int (-1)] _ _ _ _
      refine pm_e_sim pm_a0_420 rfl ?_
      refine pm_e_top (y := 2) (by decide +kernel) ?_
      show pm_E _ _ _ 421 [(3, .int 0), (2, .ref 18), (1, .ref 0), (0, .retAddr 0)] [.int 2, .retAddr 0, .int _, .ref 18, .int (-1)] _ _ _ _
      refine pm_e_sld (j := 2) pm_a0_421 (by decide +kernel) ?_
      show pm_E _ _ _ 422 [(3, .int 0), (2, .ref 18), (1, .ref 0), (0, .retAddr 0)] [.int _, .int _, .ref 18, .int (-1)] _ _ _ _
      refine pm_e_call (T2 := pm_mm66) pm_a0_422 rfl rfl rfl rfl rfl rfl rfl rfl rfl ?_
      show pm_E _ _ _ 0 [(0, .ref 18), (1, .int _), (2, .int _)] [] _ _ _ _
      refine pm_e_sim pm_a66_0 rfl ?_
      show pm_E _ _ _ 1 [(0, .ref 18), (1, .int _), (2, .int _)] [.ref 18] _ _ _ _
      refine pm_e_sim pm_a66_1 rfl ?_
      show pm_E _ _ _ 2 [(0, .ref 18), (1, .int _), (2, .int _)] [.int _, .ref 18] _ _ _ _
      refine pm_e_call (T2 := pm_mm61) pm_a66_2 rfl rfl rfl rfl rfl rfl rfl rfl rfl ?_
      show pm_E _ _ _ 0 [(0, .ref 18), (1, .int _)] [] _ _ _ _
      refine pm_e_sim pm_a61_0 rfl ?_
      show pm_E _ _ _ 1 [(0, .ref 18), (1, .int _)] [.int _] _ _ _ _
      refine pm_e_sim pm_a61_1 rfl ?_
      show pm_E _ _ _ 2 [(0, .ref 18), (1, .int _)] [.long _] _ _ _ _
      refine pm_e_sim pm_a61_2 rfl ?_
      show pm_E _ _ _ 3 [(0, .ref 18), (1, .int _)] [.long _, .long _] _ _ _ _
      refine pm_e_sim pm_a61_3 rfl ?_
      show pm_E _ _ _ 4 [(0, .ref 18), (1, .int _)] [.ref 18, .long _, .long _] _ _ _ _
      refine pm_e_rd pm_a61_4 rfl rfl rfl ?_
      show pm_E _ _ _ 7 [(0, .ref 18), (1, .int _)] [.int 0, .long _, .long _] _ _ _ _
      refine pm_e_sim pm_a61_7 rfl ?_
      refine pm_e_top (y := 1) (by decide +kernel) ?_
      show pm_E _ _ _ 8 [(0, .ref 18), (1, .int _)] [.int 1, .int 0, .long _, .long _] _ _ _ _
      refine pm_e_sim pm_a61_8 rfl ?_
      refine pm_e_top (y := (-1)) (by decide +kernel) ?_
      show pm_E _ _ _ 9 [(0, .ref 18), (1, .int _)] [.int (-1), .long _, .long _] _ _ _ _
      refine pm_e_sim pm_a61_9 rfl ?_
      show pm_E _ _ _ 10 [(0, .ref 18), (1, .int _)] [.long _, .long _, .long _] _ _ _ _
      refine pm_e_call (T2 := pm_mm50) pm_a61_10 rfl rfl rfl rfl rfl rfl rfl rfl rfl ?_
      show pm_E _ _ _ 0 [(0, .long _), (2, .long _), (4, .long _)] [] _ _ _ _
      refine pm_e_sim pm_a50_0 rfl ?_
      show pm_E _ _ _ 1 [(0, .long _), (2, .long _), (4, .long _)] [.long _] _ _ _ _
      refine pm_e_sim pm_a50_1 rfl ?_
      show pm_E _ _ _ 2 [(0, .long _), (2, .long _), (4, .long _)] [.long _, .long _] _ _ _ _
      refine pm_e_sim pm_a50_2 rfl ?_
      show pm_E _ _ _ 3 [(0, .long _), (2, .long _), (4, .long _)] [.int _] _ _ _ _
      refine pm_e_ift pm_a50_3 rfl (pm_zl_lt 0 (by decide +kernel) (by omega) (by decide +kernel)) ?_
      show pm_E _ _ _ 17 [(0, .long _), (2, .long _), (4, .long _)] [] _ _ _ _
      refine pm_e_sim pm_a50_17 rfl ?_
      refine pm_e_top (y := 0) (by decide +kernel) ?_
      show pm_E _ _ _ 18 [(0, .long _), (2, .long _), (4, .long _)] [.int 0] _ _ _ _
      refine pm_e_ret pm_a50_18 rfl rfl rfl rfl rfl rfl rfl rfl ?_
      show pm_E _ _ _ 13 [(0, .ref 18), (1, .int _)] [.int 0] _ _ _ _
      refine pm_e_ret pm_a61_13 rfl rfl rfl rfl rfl rfl rfl rfl ?_
      show pm_E _ _ _ 5 [(0, .ref 18), (1, .int _), (2, .int _)] [.int 0] _ _ _ _
      refine pm_e_ift pm_a66_5 rfl (by decide +kernel) ?_
      show pm_E _ _ _ 16 [(0, .ref 18), (1, .int _), (2, .int _)] [] _ _ _ _
      refine pm_e_sim pm_a66_16 rfl ?_
      refine pm_e_top (y := (-1)) (by decide +kernel) ?_
      show pm_E _ _ _ 17 [(0, .ref 18), (1, .int _), (2, .int _)] [.int (-1)] _ _ _ _
      refine pm_e_ret pm_a66_17 rfl rfl rfl rfl rfl rfl rfl rfl ?_
      show pm_E _ _ _ 425 [(3, .int 0), (2, .ref 18), (1, .ref 0), (0, .retAddr 0)] [.int (-1), .int (-1)] _ _ _ _
      refine pm_e_ict pm_a0_425 rfl (by decide +kernel) ?_
      show pm_E _ _ _ 779 [(3, .int 0), (2, .ref 18), (1, .ref 0), (0, .retAddr 0)] [] _ _ _ _
      refine pm_e_inc (y := 6) pm_a0_779 rfl (by decide +kernel) (by decide +kernel) rfl ?_
      show pm_E _ _ _ 782 [(3, .int 6), (2, .ref 18), (1, .ref 0), (0, .retAddr 0)] [] _ _ _ _
      refine pm_e_goto pm_a0_782 rfl ?_
      show pm_E _ _ _ 18 [(3, .int 6), (2, .ref 18), (1, .ref 0), (0, .retAddr 0)] [] _ _ _ _
      refine pm_e_sim pm_a0_18 rfl ?_
      show pm_E _ _ _ 19 [(3, .int 6), (2, .ref 18), (1, .ref 0), (0, .retAddr 0)] [.int 6] _ _ _ _
      refine pm_e_sim pm_a0_19 rfl ?_
      show pm_E _ _ _ 20 [(3, .int 6), (2, .ref 18), (1, .ref 0), (0, .retAddr 0)] [.retAddr 0, .int 6] _ _ _ _
      refine pm_e_rd pm_a0_20 rfl rfl rfl ?_
      dsimp only
      refine pm_e_top (y := 6) (by decide +kernel) ?_
      show pm_E _ _ _ 21 [(3, .int 6), (2, .ref 18), (1, .ref 0), (0, .retAddr 0)] [.int 6, .int 6] _ _ _ _
      refine pm_e_sim pm_a0_21 rfl ?_
      refine pm_e_top (y := 6) (by decide +kernel) ?_
      show pm_E _ _ _ 23 [(3, .int 6), (2, .ref 18), (1, .ref 0), (0, .retAddr 0)] [.int 6, .int 6, .int 6] _ _ _ _
      refine pm_e_sim pm_a0_23 rfl ?_
      refine pm_e_top (y := 0) (by decide +kernel) ?_
      show pm_E _ _ _ 24 [(3, .int 6), (2, .ref 18), (1, .ref 0), (0, .retAddr 0)] [.int 0, .int 6] _ _ _ _
      refine pm_e_ict pm_a0_24 rfl (by decide +kernel) ?_
      show pm_E _ _ _ 785 [(3, .int 6), (2, .ref 18), (1, .ref 0), (0, .retAddr 0)] [] _ _ _ _
      refine pm_e_sim pm_a0_785 rfl ?_
      refine pm_e_top (y := 1) (by decide +kernel) ?_
      show pm_E _ _ _ 786 [(3, .int 6), (2, .ref 18), (1, .ref 0), (0, .retAddr 0)] [.int 1] _ _ _ _
      refine pm_e_ret pm_a0_786 rfl rfl rfl rfl rfl rfl rfl rfl ?_
      exact hQ _ _ _ (by decide +kernel) (by decide +kernel)
  · rcases (show (xs 2).toInt < 0 ∨ 0 ≤ (xs 2).toInt by omega) with h2 | h2
    · refine pm_e_tsi (t := 397) pm_a0_33 rfl (by decide +kernel) ?_
      show pm_E _ _ _ 397 [(3, .int 0), (2, .ref 18), (1, .ref 0), (0, .retAddr 0)] [] _ _ _ _
      refine pm_e_sim pm_a0_397 rfl ?_
      show pm_E _ _ _ 398 [(3, .int 0), (2, .ref 18), (1, .ref 0), (0, .retAddr 0)] [.ref 0] _ _ _ _
      refine pm_e_sim pm_a0_398 rfl ?_
      show pm_E _ _ _ 399 [(3, .int 0), (2, .ref 18), (1, .ref 0), (0, .retAddr 0)] [.retAddr 0, .ref 0] _ _ _ _
      refine pm_e_sim pm_a0_399 rfl ?_
      show pm_E _ _ _ 400 [(3, .int 0), (2, .ref 18), (1, .ref 0), (0, .retAddr 0)] [.int 0, .retAddr 0, .ref 0] _ _ _ _
      refine pm_e_sim pm_a0_400 rfl ?_
      refine pm_e_top (y := 1) (by decide +kernel) ?_
      show pm_E _ _ _ 401 [(3, .int 0), (2, .ref 18), (1, .ref 0), (0, .retAddr 0)] [.int 1, .int 0, .retAddr 0, .ref 0] _ _ _ _
      refine pm_e_sim pm_a0_401 rfl ?_
      refine pm_e_top (y := 1) (by decide +kernel) ?_
      show pm_E _ _ _ 402 [(3, .int 0), (2, .ref 18), (1, .ref 0), (0, .retAddr 0)] [.int 1, .retAddr 0, .ref 0] _ _ _ _
      refine pm_e_sld (j := 1) pm_a0_402 (by decide +kernel) ?_
      show pm_E _ _ _ 403 [(3, .int 0), (2, .ref 18), (1, .ref 0), (0, .retAddr 0)] [.int _, .ref 0] _ _ _ _
      refine pm_e_sim pm_a0_403 rfl ?_
      show pm_E _ _ _ 404 [(3, .int 0), (2, .ref 18), (1, .ref 0), (0, .retAddr 0)] [.retAddr 0, .int _, .ref 0] _ _ _ _
      refine pm_e_sim pm_a0_404 rfl ?_
      show pm_E _ _ _ 405 [(3, .int 0), (2, .ref 18), (1, .ref 0), (0, .retAddr 0)] [.int 0, .retAddr 0, .int _, .ref 0] _ _ _ _
      refine pm_e_sim pm_a0_405 rfl ?_
      refine pm_e_top (y := 2) (by decide +kernel) ?_
      show pm_E _ _ _ 406 [(3, .int 0), (2, .ref 18), (1, .ref 0), (0, .retAddr 0)] [.int 2, .int 0, .retAddr 0, .int _, .ref 0] _ _ _ _
      refine pm_e_sim pm_a0_406 rfl ?_
      refine pm_e_top (y := 2) (by decide +kernel) ?_
      show pm_E _ _ _ 407 [(3, .int 0), (2, .ref 18), (1, .ref 0), (0, .retAddr 0)] [.int 2, .retAddr 0, .int _, .ref 0] _ _ _ _
      refine pm_e_sld (j := 2) pm_a0_407 (by decide +kernel) ?_
      show pm_E _ _ _ 408 [(3, .int 0), (2, .ref 18), (1, .ref 0), (0, .retAddr 0)] [.int _, .int _, .ref 0] _ _ _ _
      refine pm_e_call (T2 := pm_mm31) pm_a0_408 rfl rfl rfl rfl rfl rfl rfl rfl rfl ?_
      show pm_E _ _ _ 0 [(0, .ref 0), (1, .int _), (2, .int _)] [] _ _ _ _
      refine pm_e_sim pm_a31_0 rfl ?_
      show pm_E _ _ _ 1 [(0, .ref 0), (1, .int _), (2, .int _)] [.ref 0] _ _ _ _
      refine pm_e_sim pm_a31_1 rfl ?_
      show pm_E _ _ _ 2 [(0, .ref 0), (1, .int _), (2, .int _)] [.int _, .ref 0] _ _ _ _
      refine pm_e_call (T2 := pm_mm26) pm_a31_2 rfl rfl rfl rfl rfl rfl rfl rfl rfl ?_
      show pm_E _ _ _ 0 [(0, .ref 0), (1, .int _)] [] _ _ _ _
      refine pm_e_sim pm_a26_0 rfl ?_
      show pm_E _ _ _ 1 [(0, .ref 0), (1, .int _)] [.int _] _ _ _ _
      refine pm_e_iff pm_a26_1 rfl (pm_z_lt_f 0 (by decide +kernel) (by omega)) ?_
      show pm_E _ _ _ 4 [(0, .ref 0), (1, .int _)] [] _ _ _ _
      refine pm_e_sim pm_a26_4 rfl ?_
      show pm_E _ _ _ 5 [(0, .ref 0), (1, .int _)] [.int _] _ _ _ _
      refine pm_e_sim pm_a26_5 rfl ?_
      show pm_E _ _ _ 6 [(0, .ref 0), (1, .int _)] [.ref 0, .int _] _ _ _ _
      refine pm_e_rd pm_a26_6 rfl rfl rfl ?_
      show pm_E _ _ _ 9 [(0, .ref 0), (1, .int _)] [.int 0, .int _] _ _ _ _
      refine pm_e_ict pm_a26_9 rfl (pm_z_ge_t 0 (by decide +kernel) (by omega)) ?_
      show pm_E _ _ _ 30 [(0, .ref 0), (1, .int _)] [] _ _ _ _
      refine pm_e_sim pm_a26_30 rfl ?_
      show pm_E _ _ _ 31 [(0, .ref 0), (1, .int _)] [.null] _ _ _ _
      refine pm_e_ret pm_a26_31 rfl rfl rfl rfl rfl rfl rfl rfl ?_
      show pm_E _ _ _ 5 [(0, .ref 0), (1, .int _), (2, .int _)] [.null] _ _ _ _
      refine pm_e_sim pm_a31_5 rfl ?_
      show pm_E _ _ _ 6 [(3, .null), (0, .ref 0), (1, .int _), (2, .int _)] [] _ _ _ _
      refine pm_e_sim pm_a31_6 rfl ?_
      show pm_E _ _ _ 7 [(3, .null), (0, .ref 0), (1, .int _), (2, .int _)] [.ref 0] _ _ _ _
      refine pm_e_sim pm_a31_7 rfl ?_
      show pm_E _ _ _ 8 [(3, .null), (0, .ref 0), (1, .int _), (2, .int _)] [.int _, .ref 0] _ _ _ _
      refine pm_e_call (T2 := pm_mm26) pm_a31_8 rfl rfl rfl rfl rfl rfl rfl rfl rfl ?_
      show pm_E _ _ _ 0 [(0, .ref 0), (1, .int _)] [] _ _ _ _
      refine pm_e_sim pm_a26_0 rfl ?_
      show pm_E _ _ _ 1 [(0, .ref 0), (1, .int _)] [.int _] _ _ _ _
      refine pm_e_ift pm_a26_1 rfl (pm_z_lt_t 0 (by decide +kernel) (by omega)) ?_
      show pm_E _ _ _ 30 [(0, .ref 0), (1, .int _)] [] _ _ _ _
      refine pm_e_sim pm_a26_30 rfl ?_
      show pm_E _ _ _ 31 [(0, .ref 0), (1, .int _)] [.null] _ _ _ _
      refine pm_e_ret pm_a26_31 rfl rfl rfl rfl rfl rfl rfl rfl ?_
      show pm_E _ _ _ 11 [(3, .null), (0, .ref 0), (1, .int _), (2, .int _)] [.null] _ _ _ _
      refine pm_e_sim pm_a31_11 rfl ?_
      show pm_E _ _ _ 13 [(4, .null), (3, .null), (0, .ref 0), (1, .int _), (2, .int _)] [] _ _ _ _
      refine pm_e_sim pm_a31_13 rfl ?_
      show pm_E _ _ _ 14 [(4, .null), (3, .null), (0, .ref 0), (1, .int _), (2, .int _)] [.null] _ _ _ _
      refine pm_e_jmp (pc2 := 22) pm_a31_14 rfl rfl ?_
      show pm_E _ _ _ 22 [(4, .null), (3, .null), (0, .ref 0), (1, .int _), (2, .int _)] [] _ _ _ _
      refine pm_e_sim pm_a31_22 rfl ?_
      refine pm_e_top (y := (-1)) (by decide +kernel) ?_
      show pm_E _ _ _ 23 [(4, .null), (3, .null), (0, .ref 0), (1, .int _), (2, .int _)] [.int (-1)] _ _ _ _
      refine pm_e_ret pm_a31_23 rfl rfl rfl rfl rfl rfl rfl rfl ?_
      show pm_E _ _ _ 411 [(3, .int 0), (2, .ref 18), (1, .ref 0), (0, .retAddr 0)] [.int (-1)] _ _ _ _
      refine pm_e_sim pm_a0_411 rfl ?_
      show pm_E _ _ _ 412 [(3, .int 0), (2, .ref 18), (1, .ref 0), (0, .retAddr 0)] [.ref 18, .int (-1)] _ _ _ _
      refine pm_e_sim pm_a0_412 rfl ?_
      show pm_E _ _ _ 413 [(3, .int 0), (2, .ref 18), (1, .ref 0), (0, .retAddr 0)] [.retAddr 0, .ref 18, .int (-1)] _ _ _ _
      refine pm_e_sim pm_a0_413 rfl ?_
      show pm_E _ _ _ 414 [(3, .int 0), (2, .ref 18), (1, .ref 0), (0, .retAddr 0)] [.int 0, .retAddr 0, .ref 18, .int (-1)] _ _ _ _
      refine pm_e_sim pm_a0_414 rfl ?_
      refine pm_e_top (y := 1) (by decide +kernel) ?_
      show pm_E _ _ _ 415 [(3, .int 0), (2, .ref 18), (1, .ref 0), (0, .retAddr 0)] [.int 1, .int 0, .retAddr 0, .ref 18, .int (-1)] _ _ _ _
      refine pm_e_sim pm_a0_415 rfl ?_
      refine pm_e_top (y := 1) (by decide +kernel) ?_
      show pm_E _ _ _ 416 [(3, .int 0), (2, .ref 18), (1, .ref 0), (0, .retAddr 0)] [.int 1, .retAddr 0, .ref 18, .int (-1)] _ _ _ _
      refine pm_e_sld (j := 1) pm_a0_416 (by decide +kernel) ?_
      show pm_E _ _ _ 417 [(3, .int 0), (2, .ref 18), (1, .ref 0), (0, .retAddr 0)] [.int _, .ref 18, .int (-1)] _ _ _ _
      refine pm_e_sim pm_a0_417 rfl ?_
      show pm_E _ _ _ 418 [(3, .int 0), (2, .ref 18), (1, .ref 0), (0, .retAddr 0)] [.retAddr 0, .int _, .ref 18, .int (-1)] _ _ _ _
      refine pm_e_sim pm_a0_418 rfl ?_
      show pm_E _ _ _ 419 [(3, .int 0), (2, .ref 18), (1, .ref 0), (0, .retAddr 0)] [.int 0, .retAddr 0, .int _, .ref 18, .int (-1)] _ _ _ _
      refine pm_e_sim pm_a0_419 rfl ?_
      refine pm_e_top (y := 2) (by decide +kernel) ?_
      show pm_E _ _ _ 420 [(3, .int 0), (2, .ref 18), (1, .ref 0), (0, .retAddr 0)] [.int 2, .int 0, .retAddr 0, .int _, .ref 18, .int (-1)] _ _ _ _
      refine pm_e_sim pm_a0_420 rfl ?_
      refine pm_e_top (y := 2) (by decide +kernel) ?_
      show pm_E _ _ _ 421 [(3, .int 0), (2, .ref 18), (1, .ref 0), (0, .retAddr 0)] [.int 2, .retAddr 0, .int _, .ref 18, .int (-1)] _ _ _ _
      refine pm_e_sld (j := 2) pm_a0_421 (by decide +kernel) ?_
      show pm_E _ _ _ 422 [(3, .int 0), (2, .ref 18), (1, .ref 0), (0, .retAddr 0)] [.int _, .int _, .ref 18, .int (-1)] _ _ _ _
      refine pm_e_call (T2 := pm_mm66) pm_a0_422 rfl rfl rfl rfl rfl rfl rfl rfl rfl ?_
      show pm_E _ _ _ 0 [(0, .ref 18), (1, .int _), (2, .int _)] [] _ _ _ _
      refine pm_e_sim pm_a66_0 rfl ?_
      show pm_E _ _ _ 1 [(0, .ref 18), (1, .int _), (2, .int _)] [.ref 18] _ _ _ _
      refine pm_e_sim pm_a66_1 rfl ?_
      show pm_E _ _ _ 2 [(0, .ref 18), (1, .int _), (2, .int _)] [.int _, .ref 18] _ _ _ _
      refine pm_e_call (T2 := pm_mm61) pm_a66_2 rfl rfl rfl rfl rfl rfl rfl rfl rfl ?_
      show pm_E _ _ _ 0 [(0, .ref 18), (1, .int _)] [] _ _ _ _
      refine pm_e_sim pm_a61_0 rfl ?_
      show pm_E _ _ _ 1 [(0, .ref 18), (1, .int _)] [.int _] _ _ _ _
      refine pm_e_sim pm_a61_1 rfl ?_
      show pm_E _ _ _ 2 [(0, .ref 18), (1, .int _)] [.long _] _ _ _ _
      refine pm_e_sim pm_a61_2 rfl ?_
      show pm_E _ _ _ 3 [(0, .ref 18), (1, .int _)] [.long _, .long _] _ _ _ _
      refine pm_e_sim pm_a61_3 rfl ?_
      show pm_E _ _ _ 4 [(0, .ref 18), (1, .int _)] [.ref 18, .long _, .long _] _ _ _ _
      refine pm_e_rd pm_a61_4 rfl rfl rfl ?_
      show pm_E _ _ _ 7 [(0, .ref 18), (1, .int _)] [.int 0, .long _, .long _] _ _ _ _
      refine pm_e_sim pm_a61_7 rfl ?_
      refine pm_e_top (y := 1) (by decide +kernel) ?_
      show pm_E _ _ _ 8 [(0, .ref 18), (1, .int _)] [.int 1, .int 0, .long _, .long _] _ _ _ _
      refine pm_e_sim pm_a61_8 rfl ?_
      refine pm_e_top (y := (-1)) (by decide +kernel) ?_
      show pm_E _ _ _ 9 [(0, .ref 18), (1, .int _)] [.int (-1), .long _, .long _] _ _ _ _
      refine pm_e_sim pm_a61_9 rfl ?_
      show pm_E _ _ _ 10 [(0, .ref 18), (1, .int _)] [.long _, .long _, .long _] _ _ _ _
      refine pm_e_call (T2 := pm_mm50) pm_a61_10 rfl rfl rfl rfl rfl rfl rfl rfl rfl ?_
      show pm_E _ _ _ 0 [(0, .long _), (2, .long _), (4, .long _)] [] _ _ _ _
      refine pm_e_sim pm_a50_0 rfl ?_
      show pm_E _ _ _ 1 [(0, .long _), (2, .long _), (4, .long _)] [.long _] _ _ _ _
      refine pm_e_sim pm_a50_1 rfl ?_
      show pm_E _ _ _ 2 [(0, .long _), (2, .long _), (4, .long _)] [.long _, .long _] _ _ _ _
      refine pm_e_sim pm_a50_2 rfl ?_
      show pm_E _ _ _ 3 [(0, .long _), (2, .long _), (4, .long _)] [.int _] _ _ _ _
      refine pm_e_iff pm_a50_3 rfl (pm_zl_eq 0 (by decide +kernel) (by omega) (by decide +kernel)) ?_
      show pm_E _ _ _ 6 [(0, .long _), (2, .long _), (4, .long _)] [] _ _ _ _
      refine pm_e_sim pm_a50_6 rfl ?_
      show pm_E _ _ _ 7 [(0, .long _), (2, .long _), (4, .long _)] [.long _] _ _ _ _
      refine pm_e_sim pm_a50_7 rfl ?_
      show pm_E _ _ _ 9 [(0, .long _), (2, .long _), (4, .long _)] [.long _, .long _] _ _ _ _
      refine pm_e_sim pm_a50_9 rfl ?_
      show pm_E _ _ _ 10 [(0, .long _), (2, .long _), (4, .long _)] [.int _] _ _ _ _
      refine pm_e_ift pm_a50_10 rfl (pm_zl_gt (-1) (by decide +kernel) (by omega) (by decide +kernel)) ?_
      show pm_E _ _ _ 17 [(0, .long _), (2, .long _), (4, .long _)] [] _ _ _ _
      refine pm_e_sim pm_a50_17 rfl ?_
      refine pm_e_top (y := 0) (by decide +kernel) ?_
      show pm_E _ _ _ 18 [(0, .long _), (2, .long _), (4, .long _)] [.int 0] _ _ _ _
      refine pm_e_ret pm_a50_18 rfl rfl rfl rfl rfl rfl rfl rfl ?_
      show pm_E _ _ _ 13 [(0, .ref 18), (1, .int _)] [.int 0] _ _ _ _
      refine pm_e_ret pm_a61_13 rfl rfl rfl rfl rfl rfl rfl rfl ?_
      show pm_E _ _ _ 5 [(0, .ref 18), (1, .int _), (2, .int _)] [.int 0] _ _ _ _
      refine pm_e_ift pm_a66_5 rfl (by decide +kernel) ?_
      show pm_E _ _ _ 16 [(0, .ref 18), (1, .int _), (2, .int _)] [] _ _ _ _
      refine pm_e_sim pm_a66_16 rfl ?_
      refine pm_e_top (y := (-1)) (by decide +kernel) ?_
      show pm_E _ _ _ 17 [(0, .ref 18), (1, .int _), (2, .int _)] [.int (-1)] _ _ _ _
      refine pm_e_ret pm_a66_17 rfl rfl rfl rfl rfl rfl rfl rfl ?_
      show pm_E _ _ _ 425 [(3, .int 0), (2, .ref 18), (1, .ref 0), (0, .retAddr 0)] [.int (-1), .int (-1)] _ _ _ _
      refine pm_e_ict pm_a0_425 rfl (by decide +kernel) ?_
      show pm_E _ _ _ 779 [(3, .int 0), (2, .ref 18), (1, .ref 0), (0, .retAddr 0)] [] _ _ _ _
      refine pm_e_inc (y := 6) pm_a0_779 rfl (by decide +kernel) (by decide +kernel) rfl ?_
      show pm_E _ _ _ 782 [(3, .int 6), (2, .ref 18), (1, .ref 0), (0, .retAddr 0)] [] _ _ _ _
      refine pm_e_goto pm_a0_782 rfl ?_
      show pm_E _ _ _ 18 [(3, .int 6), (2, .ref 18), (1, .ref 0), (0, .retAddr 0)] [] _ _ _ _
      refine pm_e_sim pm_a0_18 rfl ?_
      show pm_E _ _ _ 19 [(3, .int 6), (2, .ref 18), (1, .ref 0), (0, .retAddr 0)] [.int 6] _ _ _ _
      refine pm_e_sim pm_a0_19 rfl ?_
      show pm_E _ _ _ 20 [(3, .int 6), (2, .ref 18), (1, .ref 0), (0, .retAddr 0)] [.retAddr 0, .int 6] _ _ _ _
      refine pm_e_rd pm_a0_20 rfl rfl rfl ?_
      dsimp only
      refine pm_e_top (y := 6) (by decide +kernel) ?_
      show pm_E _ _ _ 21 [(3, .int 6), (2, .ref 18), (1, .ref 0), (0, .retAddr 0)] [.int 6, .int 6] _ _ _ _
      refine pm_e_sim pm_a0_21 rfl ?_
      refine pm_e_top (y := 6) (by decide +kernel) ?_
      show pm_E _ _ _ 23 [(3, .int 6), (2, .ref 18), (1, .ref 0), (0, .retAddr 0)] [.int 6, .int 6, .int 6] _ _ _ _
      refine pm_e_sim pm_a0_23 rfl ?_
      refine pm_e_top (y := 0) (by decide +kernel) ?_
      show pm_E _ _ _ 24 [(3, .int 6), (2, .ref 18), (1, .ref 0), (0, .retAddr 0)] [.int 0, .int 6] _ _ _ _
      refine pm_e_ict pm_a0_24 rfl (by decide +kernel) ?_
      show pm_E _ _ _ 785 [(3, .int 6), (2, .ref 18), (1, .ref 0), (0, .retAddr 0)] [] _ _ _ _
      refine pm_e_sim pm_a0_785 rfl ?_
      refine pm_e_top (y := 1) (by decide +kernel) ?_
      show pm_E _ _ _ 786 [(3, .int 6), (2, .ref 18), (1, .ref 0), (0, .retAddr 0)] [.int 1] _ _ _ _
      refine pm_e_ret pm_a0_786 rfl rfl rfl rfl rfl rfl rfl rfl ?_
      exact hQ _ _ _ (by decide +kernel) (by decide +kernel)
    · refine pm_e_tsi (t := 397) pm_a0_33 rfl (by decide +kernel) ?_
      show pm_E _ _ _ 397 [(3, .int 0), (2, .ref 18), (1, .ref 0), (0, .retAddr 0)] [] _ _ _ _
      refine pm_e_sim pm_a0_397 rfl ?_
      show pm_E _ _ _ 398 [(3, .int 0), (2, .ref 18), (1, .ref 0), (0, .retAddr 0)] [.ref 0] _ _ _ _
      refine pm_e_sim pm_a0_398 rfl ?_
      show pm_E _ _ _ 399 [(3, .int 0), (2, .ref 18), (1, .ref 0), (0, .retAddr 0)] [.retAddr 0, .ref 0] _ _ _ _
      refine pm_e_sim pm_a0_399 rfl ?_
      show pm_E _ _ _ 400 [(3, .int 0), (2, .ref 18), (1, .ref 0), (0, .retAddr 0)] [.int 0, .retAddr 0, .ref 0] _ _ _ _
      refine pm_e_sim pm_a0_400 rfl ?_
      refine pm_e_top (y := 1) (by decide +kernel) ?_
      show pm_E _ _ _ 401 [(3, .int 0), (2, .ref 18), (1, .ref 0), (0, .retAddr 0)] [.int 1, .int 0, .retAddr 0, .ref 0] _ _ _ _
      refine pm_e_sim pm_a0_401 rfl ?_
      refine pm_e_top (y := 1) (by decide +kernel) ?_
      show pm_E _ _ _ 402 [(3, .int 0), (2, .ref 18), (1, .ref 0), (0, .retAddr 0)] [.int 1, .retAddr 0, .ref 0] _ _ _ _
      refine pm_e_sld (j := 1) pm_a0_402 (by decide +kernel) ?_
      show pm_E _ _ _ 403 [(3, .int 0), (2, .ref 18), (1, .ref 0), (0, .retAddr 0)] [.int _, .ref 0] _ _ _ _
      refine pm_e_sim pm_a0_403 rfl ?_
      show pm_E _ _ _ 404 [(3, .int 0), (2, .ref 18), (1, .ref 0), (0, .retAddr 0)] [.retAddr 0, .int _, .ref 0] _ _ _ _
      refine pm_e_sim pm_a0_404 rfl ?_
      show pm_E _ _ _ 405 [(3, .int 0), (2, .ref 18), (1, .ref 0), (0, .retAddr 0)] [.int 0, .retAddr 0, .int _, .ref 0] _ _ _ _
      refine pm_e_sim pm_a0_405 rfl ?_
      refine pm_e_top (y := 2) (by decide +kernel) ?_
      show pm_E _ _ _ 406 [(3, .int 0), (2, .ref 18), (1, .ref 0), (0, .retAddr 0)] [.int 2, .int 0, .retAddr 0, .int _, .ref 0] _ _ _ _
      refine pm_e_sim pm_a0_406 rfl ?_
      refine pm_e_top (y := 2) (by decide +kernel) ?_
      show pm_E _ _ _ 407 [(3, .int 0), (2, .ref 18), (1, .ref 0), (0, .retAddr 0)] [.int 2, .retAddr 0, .int _, .ref 0] _ _ _ _
      refine pm_e_sld (j := 2) pm_a0_407 (by decide +kernel) ?_
      show pm_E _ _ _ 408 [(3, .int 0), (2, .ref 18), (1, .ref 0), (0, .retAddr 0)] [.int _, .int _, .ref 0] _ _ _ _
      refine pm_e_call (T2 := pm_mm31) pm_a0_408 rfl rfl rfl rfl rfl rfl rfl rfl rfl ?_
      show pm_E _ _ _ 0 [(0, .ref 0), (1, .int _), (2, .int _)] [] _ _ _ _
      refine pm_e_sim pm_a31_0 rfl ?_
      show pm_E _ _ _ 1 [(0, .ref 0), (1, .int _), (2, .int _)] [.ref 0] _ _ _ _
      refine pm_e_sim pm_a31_1 rfl ?_
      show pm_E _ _ _ 2 [(0, .ref 0), (1, .int _), (2, .int _)] [.int _, .ref 0] _ _ _ _
      refine pm_e_call (T2 := pm_mm26) pm_a31_2 rfl rfl rfl rfl rfl rfl rfl rfl rfl ?_
      show pm_E _ _ _ 0 [(0, .ref 0), (1, .int _)] [] _ _ _ _
      refine pm_e_sim pm_a26_0 rfl ?_
      show pm_E _ _ _ 1 [(0, .ref 0), (1, .int _)] [.int _] _ _ _ _
      refine pm_e_iff pm_a26_1 rfl (pm_z_lt_f 0 (by decide +kernel) (by omega)) ?_
      show pm_E _ _ _ 4 [(0, .ref 0), (1, .int _)] [] _ _ _ _
      refine pm_e_sim pm_a26_4 rfl ?_
      show pm_E _ _ _ 5 [(0, .ref 0), (1, .int _)] [.int _] _ _ _ _
      refine pm_e_sim pm_a26_5 rfl ?_
      show pm_E _ _ _ 6 [(0, .ref 0), (1, .int _)] [.ref 0, .int _] _ _ _ _
      refine pm_e_rd pm_a26_6 rfl rfl rfl ?_
      show pm_E _ _ _ 9 [(0, .ref 0), (1, .int _)] [.int 0, .int _] _ _ _ _
      refine pm_e_ict pm_a26_9 rfl (pm_z_ge_t 0 (by decide +kernel) (by omega)) ?_
      show pm_E _ _ _ 30 [(0, .ref 0), (1, .int _)] [] _ _ _ _
      refine pm_e_sim pm_a26_30 rfl ?_
      show pm_E _ _ _ 31 [(0, .ref 0), (1, .int _)] [.null] _ _ _ _
      refine pm_e_ret pm_a26_31 rfl rfl rfl rfl rfl rfl rfl rfl ?_
      show pm_E _ _ _ 5 [(0, .ref 0), (1, .int _), (2, .int _)] [.null] _ _ _ _
      refine pm_e_sim pm_a31_5 rfl ?_
      show pm_E _ _ _ 6 [(3, .null), (0, .ref 0), (1, .int _), (2, .int _)] [] _ _ _ _
      refine pm_e_sim pm_a31_6 rfl ?_
      show pm_E _ _ _ 7 [(3, .null), (0, .ref 0), (1, .int _), (2, .int _)] [.ref 0] _ _ _ _
      refine pm_e_sim pm_a31_7 rfl ?_
      show pm_E _ _ _ 8 [(3, .null), (0, .ref 0), (1, .int _), (2, .int _)] [.int _, .ref 0] _ _ _ _
      refine pm_e_call (T2 := pm_mm26) pm_a31_8 rfl rfl rfl rfl rfl rfl rfl rfl rfl ?_
      show pm_E _ _ _ 0 [(0, .ref 0), (1, .int _)] [] _ _ _ _
      refine pm_e_sim pm_a26_0 rfl ?_
      show pm_E _ _ _ 1 [(0, .ref 0), (1, .int _)] [.int _] _ _ _ _
      refine pm_e_iff pm_a26_1 rfl (pm_z_lt_f 0 (by decide +kernel) (by omega)) ?_
      show pm_E _ _ _ 4 [(0, .ref 0), (1, .int _)] [] _ _ _ _
      refine pm_e_sim pm_a26_4 rfl ?_
      show pm_E _ _ _ 5 [(0, .ref 0), (1, .int _)] [.int _] _ _ _ _
      refine pm_e_sim pm_a26_5 rfl ?_
      show pm_E _ _ _ 6 [(0, .ref 0), (1, .int _)] [.ref 0, .int _] _ _ _ _
      refine pm_e_rd pm_a26_6 rfl rfl rfl ?_
      show pm_E _ _ _ 9 [(0, .ref 0), (1, .int _)] [.int 0, .int _] _ _ _ _
      refine pm_e_ict pm_a26_9 rfl (pm_z_ge_t 0 (by decide +kernel) (by omega)) ?_
      show pm_E _ _ _ 30 [(0, .ref 0), (1, .int _)] [] _ _ _ _
      refine pm_e_sim pm_a26_30 rfl ?_
      show pm_E _ _ _ 31 [(0, .ref 0), (1, .int _)] [.null] _ _ _ _
      refine pm_e_ret pm_a26_31 rfl rfl rfl rfl rfl rfl rfl rfl ?_
      show pm_E _ _ _ 11 [(3, .null), (0, .ref 0), (1, .int _), (2, .int _)] [.null] _ _ _ _
      refine pm_e_sim pm_a31_11 rfl ?_
      show pm_E _ _ _ 13 [(4, .null), (3, .null), (0, .ref 0), (1, .int _), (2, .int _)] [] _ _ _ _
      refine pm_e_sim pm_a31_13 rfl ?_
      show pm_E _ _ _ 14 [(4, .null), (3, .null), (0, .ref 0), (1, .int _), (2, .int _)] [.null] _ _ _ _
      refine pm_e_jmp (pc2 := 22) pm_a31_14 rfl rfl ?_
      show pm_E _ _ _ 22 [(4, .null), (3, .null), (0, .ref 0), (1, .int _), (2, .int _)] [] _ _ _ _
      refine pm_e_sim pm_a31_22 rfl ?_
      refine pm_e_top (y := (-1)) (by decide +kernel) ?_
      show pm_E _ _ _ 23 [(4, .null), (3, .null), (0, .ref 0), (1, .int _), (2, .int _)] [.int (-1)] _ _ _ _
      refine pm_e_ret pm_a31_23 rfl rfl rfl rfl rfl rfl rfl rfl ?_
      show pm_E _ _ _ 411 [(3, .int 0), (2, .ref 18), (1, .ref 0), (0, .retAddr 0)] [.int (-1)] _ _ _ _
      refine pm_e_sim pm_a0_411 rfl ?_
      show pm_E _ _ _ 412 [(3, .int 0), (2, .ref 18), (1, .ref 0), (0, .retAddr 0)] [.ref 18, .int (-1)] _ _ _ _
      refine pm_e_sim pm_a0_412 rfl ?_
      show pm_E _ _ _ 413 [(3, .int 0), (2, .ref 18), (1, .ref 0), (0, .retAddr 0)] [.retAddr 0, .ref 18, .int (-1)] _ _ _ _
      refine pm_e_sim pm_a0_413 rfl ?_
      show pm_E _ _ _ 414 [(3, .int 0), (2, .ref 18), (1, .ref 0), (0, .retAddr 0)] [.int 0, .retAddr 0, .ref 18, .int (-1)] _ _ _ _
      refine pm_e_sim pm_a0_414 rfl ?_
      refine pm_e_top (y := 1) (by decide +kernel) ?_
      show pm_E _ _ _ 415 [(3, .int 0), (2, .ref 18), (1, .ref 0), (0, .retAddr 0)] [.int 1, .int 0, .retAddr 0, .ref 18, .int (-1)] _ _ _ _
      refine pm_e_sim pm_a0_415 rfl ?_
      refine pm_e_top (y := 1) (by decide +kernel) ?_
      show pm_E _ _ _ 416 [(3, .int 0), (2, .ref 18), (1, .ref 0), (0, .retAddr 0)] [.int 1, .retAddr 0, .ref 18, .int (-1)] _ _ _ _
      refine pm_e_sld (j := 1) pm_a0_416 (by decide +kernel) ?_
      show pm_E _ _ _ 417 [(3, .int 0), (2, .ref 18), (1, .ref 0), (0, .retAddr 0)] [.int _, .ref 18, .int (-1)] _ _ _ _
      refine pm_e_sim pm_a0_417 rfl ?_
      show pm_E _ _ _ 418 [(3, .int 0), (2, .ref 18), (1, .ref 0), (0, .retAddr 0)] [.retAddr 0, .int _, .ref 18, .int (-1)] _ _ _ _
      refine pm_e_sim pm_a0_418 rfl ?_
      show pm_E _ _ _ 419 [(3, .int 0), (2, .ref 18), (1, .ref 0), (0, .retAddr 0)] [.int 0, .retAddr 0, .int _, .ref 18, .int (-1)] _ _ _ _
      refine pm_e_sim pm_a0_419 rfl ?_
      refine pm_e_top (y := 2) (by decide +kernel) ?_
      show pm_E _ _ _ 420 [(3, .int 0), (2, .ref 18), (1, .ref 0), (0, .retAddr 0)] [.int 2, .int 0, .retAddr 0, .int _, .ref 18, .int (-1)] _ _ _ _
      refine pm_e_sim pm_a0_420 rfl ?_
      refine pm_e_top (y := 2) (by decide +kernel) ?_
      show pm_E _ _ _ 421 [(3, .int 0), (2, .ref 18), (1, .ref 0), (0, .retAddr 0)] [.int 2, .retAddr 0, .int _, .ref 18, .int (-1)] _ _ _ _
      refine pm_e_sld (j := 2) pm_a0_421 (by decide +kernel) ?_
      show pm_E _ _ _ 422 [(3, .int 0), (2, .ref 18), (1, .ref 0), (0, .retAddr 0)] [.int _, .int _, .ref 18, .int (-1)] _ _ _ _
      refine pm_e_call (T2 := pm_mm66) pm_a0_422 rfl rfl rfl rfl rfl rfl rfl rfl rfl ?_
      show pm_E _ _ _ 0 [(0, .ref 18), (1, .int _), (2, .int _)] [] _ _ _ _
      refine pm_e_sim pm_a66_0 rfl ?_
      show pm_E _ _ _ 1 [(0, .ref 18), (1, .int _), (2, .int _)] [.ref 18] _ _ _ _
      refine pm_e_sim pm_a66_1 rfl ?_
      show pm_E _ _ _ 2 [(0, .ref 18), (1, .int _), (2, .int _)] [.int _, .ref 18] _ _ _ _
      refine pm_e_call (T2 := pm_mm61) pm_a66_2 rfl rfl rfl rfl rfl rfl rfl rfl rfl ?_
      show pm_E _ _ _ 0 [(0, .ref 18), (1, .int _)] [] _ _ _ _
      refine pm_e_sim pm_a61_0 rfl ?_
      show pm_E _ _ _ 1 [(0, .ref 18), (1, .int _)] [.int _] _ _ _ _
      refine pm_e_sim pm_a61_1 rfl ?_
      show pm_E _ _ _ 2 [(0, .ref 18), (1, .int _)] [.long _] _ _ _ _
      refine pm_e_sim pm_a61_2 rfl ?_
      show pm_E _ _ _ 3 [(0, .ref 18), (1, .int _)] [.long _, .long _] _ _ _ _
      refine pm_e_sim pm_a61_3 rfl ?_
      show pm_E _ _ _ 4 [(0, .ref 18), (1, .int _)] [.ref 18, .long _, .long _] _ _ _ _
      refine pm_e_rd pm_a61_4 rfl rfl rfl ?_
      show pm_E _ _ _ 7 [(0, .ref 18), (1, .int _)] [.int 0, .long _, .long _] _ _ _ _
      refine pm_e_sim pm_a61_7 rfl ?_
      refine pm_e_top (y := 1) (by decide +kernel) ?_
      show pm_E _ _ _ 8 [(0, .ref 18), (1, .int _)] [.int 1, .int 0, .long _, .long _] _ _ _ _
      refine pm_e_sim pm_a61_8 rfl ?_
      refine pm_e_top (y := (-1)) (by decide +kernel) ?_
      show pm_E _ _ _ 9 [(0, .ref 18), (1, .int _)] [.int (-1), .long _, .long _] _ _ _ _
      refine pm_e_sim pm_a61_9 rfl ?_
      show pm_E _ _ _ 10 [(0, .ref 18), (1, .int _)] [.long _, .long _, .long _] _ _ _ _
      refine pm_e_call (T2 := pm_mm50) pm_a61_10 rfl rfl rfl rfl rfl rfl rfl rfl rfl ?_
      show pm_E _ _ _ 0 [(0, .long _), (2, .long _), (4, .long _)] [] _ _ _ _
      refine pm_e_sim pm_a50_0 rfl ?_
      show pm_E _ _ _ 1 [(0, .long _), (2, .long _), (4, .long _)] [.long _] _ _ _ _
      refine pm_e_sim pm_a50_1 rfl ?_
      show pm_E _ _ _ 2 [(0, .long _), (2, .long _), (4, .long _)] [.long _, .long _] _ _ _ _
      refine pm_e_sim pm_a50_2 rfl ?_
      show pm_E _ _ _ 3 [(0, .long _), (2, .long _), (4, .long _)] [.int _] _ _ _ _
      refine pm_e_iff pm_a50_3 rfl (pm_zl_eq 0 (by decide +kernel) (by omega) (by decide +kernel)) ?_
      show pm_E _ _ _ 6 [(0, .long _), (2, .long _), (4, .long _)] [] _ _ _ _
      refine pm_e_sim pm_a50_6 rfl ?_
      show pm_E _ _ _ 7 [(0, .long _), (2, .long _), (4, .long _)] [.long _] _ _ _ _
      refine pm_e_sim pm_a50_7 rfl ?_
      show pm_E _ _ _ 9 [(0, .long _), (2, .long _), (4, .long _)] [.long _, .long _] _ _ _ _
      refine pm_e_sim pm_a50_9 rfl ?_
      show pm_E _ _ _ 10 [(0, .long _), (2, .long _), (4, .long _)] [.int _] _ _ _ _
      refine pm_e_ift pm_a50_10 rfl (pm_zl_gt (-1) (by decide +kernel) (by omega) (by decide +kernel)) ?_
      show pm_E _ _ _ 17 [(0, .long _), (2, .long _), (4, .long _)] [] _ _ _ _
      refine pm_e_sim pm_a50_17 rfl ?_
      refine pm_e_top (y := 0) (by decide +kernel) ?_
      show pm_E _ _ _ 18 [(0, .long _), (2, .long _), (4, .long _)] [.int 0] _ _ _ _
      refine pm_e_ret pm_a50_18 rfl rfl rfl rfl rfl rfl rfl rfl ?_
      show pm_E _ _ _ 13 [(0, .ref 18), (1, .int _)] [.int 0] _ _ _ _
      refine pm_e_ret pm_a61_13 rfl rfl rfl rfl rfl rfl rfl rfl ?_
      show pm_E _ _ _ 5 [(0, .ref 18), (1, .int _), (2, .int _)] [.int 0] _ _ _ _
      refine pm_e_ift pm_a66_5 rfl (by decide +kernel) ?_
      show pm_E _ _ _ 16 [(0, .ref 18), (1, .int _), (2, .int _)] [] _ _ _ _
      refine pm_e_sim pm_a66_16 rfl ?_
      refine pm_e_top (y := (-1)) (by decide +kernel) ?_
      show pm_E _ _ _ 17 [(0, .ref 18), (1, .int _), (2, .int _)] [.int (-1)] _ _ _ _
      refine pm_e_ret pm_a66_17 rfl rfl rfl rfl rfl rfl rfl rfl ?_
      show pm_E _ _ _ 425 [(3, .int 0), (2, .ref 18), (1, .ref 0), (0, .retAddr 0)] [.int (-1), .int (-1)] _ _ _ _
      refine pm_e_ict pm_a0_425 rfl (by decide +kernel) ?_
      show pm_E _ _ _ 779 [(3, .int 0), (2, .ref 18), (1, .ref 0), (0, .retAddr 0)] [] _ _ _ _
      refine pm_e_inc (y := 6) pm_a0_779 rfl (by decide +kernel) (by decide +kernel) rfl ?_
      show pm_E _ _ _ 782 [(3, .int 6), (2, .ref 18), (1, .ref 0), (0, .retAddr 0)] [] _ _ _ _
      refine pm_e_goto pm_a0_782 rfl ?_
      show pm_E _ _ _ 18 [(3, .int 6), (2, .ref 18), (1, .ref 0), (0, .retAddr 0)] [] _ _ _ _
      refine pm_e_sim pm_a0_18 rfl ?_
      show pm_E _ _ _ 19 [(3, .int 6), (2, .ref 18), (1, .ref 0), (0, .retAddr 0)] [.int 6] _ _ _ _
      refine pm_e_sim pm_a0_19 rfl ?_
      show pm_E _ _ _ 20 [(3, .int 6), (2, .ref 18), (1, .ref 0), (0, .retAddr 0)] [.retAddr 0, .int 6] _ _ _ _
      refine pm_e_rd pm_a0_20 rfl rfl rfl ?_
      dsimp only
      refine pm_e_top (y := 6) (by decide +kernel) ?_
      show pm_E _ _ _ 21 [(3, .int 6), (2, .ref 18), (1, .ref 0), (0, .retAddr 0)] [.int 6, .int 6] _ _ _ _
      refine pm_e_sim pm_a0_21 rfl ?_
      refine pm_e_top (y := 6) (by decide +kernel) ?_
      show pm_E _ _ _ 23 [(3, .int 6), (2, .ref 18), (1, .ref 0), (0, .retAddr 0)] [.int 6, .int 6, .int 6] _ _ _ _
      refine pm_e_sim pm_a0_23 rfl ?_
      refine pm_e_top (y := 0) (by decide +kernel) ?_
      show pm_E _ _ _ 24 [(3, .int 6), (2, .ref 18), (1, .ref 0), (0, .retAddr 0)] [.int 0, .int 6] _ _ _ _
      refine pm_e_ict pm_a0_24 rfl (by decide +kernel) ?_
      show pm_E _ _ _ 785 [(3, .int 6), (2, .ref 18), (1, .ref 0), (0, .retAddr 0)] [] _ _ _ _
      refine pm_e_sim pm_a0_785 rfl ?_
      refine pm_e_top (y := 1) (by decide +kernel) ?_
      show pm_E _ _ _ 786 [(3, .int 6), (2, .ref 18), (1, .ref 0), (0, .retAddr 0)] [.int 1] _ _ _ _
      refine pm_e_ret pm_a0_786 rfl rfl rfl rfl rfl rfl rfl rfl ?_
      exact hQ _ _ _ (by decide +kernel) (by decide +kernel)
  · rcases (show (xs 2).toInt < 0 ∨ 0 ≤ (xs 2).toInt by omega) with h2 | h2
    · refine pm_e_tsi (t := 397) pm_a0_33 rfl (by decide +kernel) ?_
      show pm_E _ _ _ 397 [(3, .int 0), (2, .ref 18), (1, .ref 0), (0, .retAddr 0)] [] _ _ _ _
      refine pm_e_sim pm_a0_397 rfl ?_
      show pm_E _ _ _ 398 [(3, .int 0), (2, .ref 18), (1, .ref 0), (0, .retAddr 0)] [.ref 0] _ _ _ _
      refine pm_e_sim pm_a0_398 rfl ?_
      show pm_E _ _ _ 399 [(3, .int 0), (2, .ref 18), (1, .ref 0), (0, .retAddr 0)] [.retAddr 0, .ref 0] _ _ _ _
      refine pm_e_sim pm_a0_399 rfl ?_
      show pm_E _ _ _ 400 [(3, .int 0), (2, .ref 18), (1, .ref 0), (0, .retAddr 0)] [.int 0, .retAddr 0, .ref 0] _ _ _ _
      refine pm_e_sim pm_a0_400 rfl ?_
      refine pm_e_top (y := 1) (by decide +kernel) ?_
      show pm_E _ _ _ 401 [(3, .int 0), (2, .ref 18), (1, .ref 0), (0, .retAddr 0)] [.int 1, .int 0, .retAddr 0, .ref 0] _ _ _ _
      refine pm_e_sim pm_a0_401 rfl ?_
      refine pm_e_top (y := 1) (by decide +kernel) ?_
      show pm_E _ _ _ 402 [(3, .int 0), (2, .ref 18), (1, .ref 0), (0, .retAddr 0)] [.int 1, .retAddr 0, .ref 0] _ _ _ _
      refine pm_e_sld (j := 1) pm_a0_402 (by decide +kernel) ?_
      show pm_E _ _ _ 403 [(3, .int 0), (2, .ref 18), (1, .ref 0), (0, .retAddr 0)] [.int _, .ref 0] _ _ _ _
      refine pm_e_sim pm_a0_403 rfl ?_
      show pm_E _ _ _ 404 [(3, .int 0), (2, .ref 18), (1, .ref 0), (0, .retAddr 0)] [.retAddr 0, .int _, .ref 0] _ _ _ _
      refine pm_e_sim pm_a0_404 rfl ?_
      show pm_E _ _ _ 405 [(3, .int 0), (2, .ref 18), (1, .ref 0), (0, .retAddr 0)] [.int 0, .retAddr 0, .int _, .ref 0] _ _ _ _
      refine pm_e_sim pm_a0_405 rfl ?_
      refine pm_e_top (y := 2) (by decide +kernel) ?_
      show pm_E _ _ _ 406 [(3, .int 0), (2, .ref 18), (1, .ref 0), (0, .retAddr 0)] [.int 2, .int 0, .retAddr 0, .int _, .ref 0] _ _ _ _
      refine pm_e_sim pm_a0_406 rfl ?_
      refine pm_e_top (y := 2) (by decide +kernel) ?_
      show pm_E _ _ _ 407 [(3, .int 0), (2, .ref 18), (1, .ref 0), (0, .retAddr 0)] [.int 2, .retAddr 0, .int _, .ref 0] _ _ _ _
      refine pm_e_sld (j := 2) pm_a0_407 (by decide +kernel) ?_
      show pm_E _ _ _ 408 [(3, .int 0), (2, .ref 18), (1, .ref 0), (0, .retAddr 0)] [.int _, .int _, .ref 0] _ _ _ _
      refine pm_e_call (T2 := pm_mm31) pm_a0_408 rfl rfl rfl rfl rfl rfl rfl rfl rfl ?_
      show pm_E _ _ _ 0 [(0, .ref 0), (1, .int _), (2, .int _)] [] _ _ _ _
      refine pm_e_sim pm_a31_0 rfl ?_
      show pm_E _ _ _ 1 [(0, .ref 0), (1, .int _), (2, .int _)] [.ref 0] _ _ _ _
      refine pm_e_sim pm_a31_1 rfl ?_
      show pm_E _ _ _ 2 [(0, .ref 0), (1, .int _), (2, .int _)] [.int _, .ref 0] _ _ _ _
      refine pm_e_call (T2 := pm_mm26) pm_a31_2 rfl rfl rfl rfl rfl rfl rfl rfl rfl ?_
      show pm_E _ _ _ 0 [(0, .ref 0), (1, .int _)] [] _ _ _ _
      refine pm_e_sim pm_a26_0 rfl ?_
      show pm_E _ _ _ 1 [(0, .ref 0), (1, .int _)] [.int _] _ _ _ _
      refine pm_e_iff pm_a26_1 rfl (pm_z_lt_f 0 (by decide +kernel) (by omega)) ?_
      show pm_E _ _ _ 4 [(0, .ref 0), (1, .int _)] [] _ _ _ _
      refine pm_e_sim pm_a26_4 rfl ?_
      show pm_E _ _ _ 5 [(0, .ref 0), (1, .int _)] [.int _] _ _ _ _
      refine pm_e_sim pm_a26_5 rfl ?_
      show pm_E _ _ _ 6 [(0, .ref 0), (1, .int _)] [.ref 0, .int _] _ _ _ _
      refine pm_e_rd pm_a26_6 rfl rfl rfl ?_
      show pm_E _ _ _ 9 [(0, .ref 0), (1, .int _)] [.int 0, .int _] _ _ _ _
      refine pm_e_ict pm_a26_9 rfl (pm_z_ge_t 0 (by decide +kernel) (by omega)) ?_
      show pm_E _ _ _ 30 [(0, .ref 0), (1, .int _)] [] _ _ _ _
      refine pm_e_sim pm_a26_30 rfl ?_
      show pm_E _ _ _ 31 [(0, .ref 0), (1, .int _)] [.null] _ _ _ _
      refine pm_e_ret pm_a26_31 rfl rfl rfl rfl rfl rfl rfl rfl ?_
      show pm_E _ _ _ 5 [(0, .ref 0), (1, .int _), (2, .int _)] [.null] _ _ _ _
      refine pm_e_sim pm_a31_5 rfl ?_
      show pm_E _ _ _ 6 [(3, .null), (0, .ref 0), (1, .int _), (2, .int _)] [] _ _ _ _
      refine pm_e_sim pm_a31_6 rfl ?_
      show pm_E _ _ _ 7 [(3, .null), (0, .ref 0), (1, .int _), (2, .int _)] [.ref 0] _ _ _ _
      refine pm_e_sim pm_a31_7 rfl ?_
      show pm_E _ _ _ 8 [(3, .null), (0, .ref 0), (1, .int _), (2, .int _)] [.int _, .ref 0] _ _ _ _
      refine pm_e_call (T2 := pm_mm26) pm_a31_8 rfl rfl rfl rfl rfl rfl rfl rfl rfl ?_
      show pm_E _ _ _ 0 [(0, .ref 0), (1, .int _)] [] _ _ _ _
      refine pm_e_sim pm_a26_0 rfl ?_
      show pm_E _ _ _ 1 [(0, .ref 0), (1, .int _)] [.int _] _ _ _ _
      refine pm_e_ift pm_a26_1 rfl (pm_z_lt_t 0 (by decide +kernel) (by omega)) ?_
      show pm_E _ _ _ 30 [(0, .ref 0), (1, .int _)] [] _ _ _ _
      refine pm_e_sim pm_a26_30 rfl ?_
      show pm_E _ _ _ 31 [(0, .ref 0), (1, .int _)] [.null] _ _ _ _
      refine pm_e_ret pm_a26_31 rfl rfl rfl rfl rfl rfl rfl rfl ?_
      show pm_E _ _ _ 11 [(3, .null), (0, .ref 0), (1, .int _), (2, .int _)] [.null] _ _ _ _
      refine pm_e_sim pm_a31_11 rfl ?_
      show pm_E _ _ _ 13 [(4, .null), (3, .null), (0, .ref 0), (1, .int _), (2, .int _)] [] _ _ _ _
      refine pm_e_sim pm_a31_13 rfl ?_
      show pm_E _ _ _ 14 [(4, .null), (3, .null), (0, .ref 0), (1, .int _), (2, .int _)] [.null] _ _ _ _
      refine pm_e_jmp (pc2 := 22) pm_a31_14 rfl rfl ?_
      show pm_E _ _ _ 22 [(4, .null), (3, .null), (0, .ref 0), (1, .int _), (2, .int _)] [] _ _ _ _
      refine pm_e_sim pm_a31_22 rfl ?_
      refine pm_e_top (y := (-1)) (by decide +kernel) ?_
      show pm_E _ _ _ 23 [(4, .null), (3, .null), (0, .ref 0), (1, .int _), (2, .int _)] [.int (-1)] _ _ _ _
      refine pm_e_ret pm_a31_23 rfl rfl rfl rfl rfl rfl rfl rfl ?_
      show pm_E _ _ _ 411 [(3, .int 0), (2, .ref 18), (1, .ref 0), (0, .retAddr 0)] [.int (-1)] _ _ _ _
      refine pm_e_sim pm_a0_411 rfl ?_
      show pm_E _ _ _ 412 [(3, .int 0), (2, .ref 18), (1, .ref 0), (0, .retAddr 0)] [.ref 18, .int (-1)] _ _ _ _
      refine pm_e_sim pm_a0_412 rfl ?_
      show pm_E _ _ _ 413 [(3, .int 0), (2, .ref 18), (1, .ref 0), (0, .retAddr 0)] [.retAddr 0, .ref 18, .int (-1)] _ _ _ _
      refine pm_e_sim pm_a0_413 rfl ?_
      show pm_E _ _ _ 414 [(3, .int 0), (2, .ref 18), (1, .ref 0), (0, .retAddr 0)] [.int 0, .retAddr 0, .ref 18, .int (-1)] _ _ _ _
      refine pm_e_sim pm_a0_414 rfl ?_
      refine pm_e_top (y := 1) (by decide +kernel) ?_
      show pm_E _ _ _ 415 [(3, .int 0), (2, .ref 18), (1, .ref 0), (0, .retAddr 0)] [.int 1, .int 0, .retAddr 0, .ref 18, .int (-1)] _ _ _ _
      refine pm_e_sim pm_a0_415 rfl ?_
      refine pm_e_top (y := 1) (by decide +kernel) ?_
      show pm_E _ _ _ 416 [(3, .int 0), (2, .ref 18), (1, .ref 0), (0, .retAddr 0)] [.int 1, .retAddr 0, .ref 18, .int (-1)] _ _ _ _
      refine pm_e_sld (j := 1) pm_a0_416 (by decide +kernel) ?_
      show pm_E _ _ _ 417 [(3, .int 0), (2, .ref 18), (1, .ref 0), (0, .retAddr 0)] [.int _, .ref 18, .int (-1)] _ _ _ _
      refine pm_e_sim pm_a0_417 rfl ?_
      show pm_E _ _ _ 418 [(3, .int 0), (2, .ref 18), (1, .ref 0), (0, .retAddr 0)] [.retAddr 0, .int _, .ref 18, .int (-1)] _ _ _ _
      refine pm_e_sim pm_a0_418 rfl ?_
      show pm_E _ _ _ 419 [(3, .int 0), (2, .ref 18), (1, .ref 0), (0, .retAddr 0)] [.int 0, .retAddr 0, .int _, .ref 18, .int (-1)] _ _ _ _
      refine pm_e_sim pm_a0_419 rfl ?_
      refine pm_e_top (y := 2) (by decide +kernel) ?_
      show pm_E _ _ _ 420 [(3, .int 0), (2, .ref 18), (1, .ref 0), (0, .retAddr 0)] [.int 2, .int 0, .retAddr 0, .int _, .ref 18, .int (-1)] _ _ _ _
      refine pm_e_sim pm_a0_420 rfl ?_
      refine pm_e_top (y := 2) (by decide +kernel) ?_
      show pm_E _ _ _ 421 [(3, .int 0), (2, .ref 18), (1, .ref 0), (0, .retAddr 0)] [.int 2, .retAddr 0, .int _, .ref 18, .int (-1)] _ _ _ _
      refine pm_e_sld (j := 2) pm_a0_421 (by decide +kernel) ?_
      show pm_E _ _ _ 422 [(3, .int 0), (2, .ref 18), (1, .ref 0), (0, .retAddr 0)] [.int _, .int _, .ref 18, .int (-1)] _ _ _ _
      refine pm_e_call (T2 := pm_mm66) pm_a0_422 rfl rfl rfl rfl rfl rfl rfl rfl rfl ?_
      show pm_E _ _ _ 0 [(0, .ref 18), (1, .int _), (2, .int _)] [] _ _ _ _
      refine pm_e_sim pm_a66_0 rfl ?_
      show pm_E _ _ _ 1 [(0, .ref 18), (1, .int _), (2, .int _)] [.ref 18] _ _ _ _
      refine pm_e_sim pm_a66_1 rfl ?_
      show pm_E _ _ _ 2 [(0, .ref 18), (1, .int _), (2, .int _)] [.int _, .ref 18] _ _ _ _
      refine pm_e_call (T2 := pm_mm61) pm_a66_2 rfl rfl rfl rfl rfl rfl rfl rfl rfl ?_
      show pm_E _ _ _ 0 [(0, .ref 18), (1, .int _)] [] _ _ _ _
      refine pm_e_sim pm_a61_0 rfl ?_
      show pm_E _ _ _ 1 [(0, .ref 18), (1, .int _)] [.int _] _ _ _ _
      refine pm_e_sim pm_a61_1 rfl ?_
      show pm_E _ _ _ 2 [(0, .ref 18), (1, .int _)] [.long _] _ _ _ _
      refine pm_e_sim pm_a61_2 rfl ?_
      show pm_E _ _ _ 3 [(0, .ref 18), (1, .int _)] [.long _, .long _] _ _ _ _
      refine pm_e_sim pm_a61_3 rfl ?_
      show pm_E _ _ _ 4 [(0, .ref 18), (1, .int _)] [.ref 18, .long _, .long _] _ _ _ _
      refine pm_e_rd pm_a61_4 rfl rfl rfl ?_
      show pm_E _ _ _ 7 [(0, .ref 18), (1, .int _)] [.int 0, .long _, .long _] _ _ _ _
      refine pm_e_sim pm_a61_7 rfl ?_
      refine pm_e_top (y := 1) (by decide +kernel) ?_
      show pm_E _ _ _ 8 [(0, .ref 18), (1, .int _)] [.int 1, .int 0, .long _, .long _] _ _ _ _
      refine pm_e_sim pm_a61_8 rfl ?_
      refine pm_e_top (y := (-1)) (by decide +kernel) ?_
      show pm_E _ _ _ 9 [(0, .ref 18), (1, .int _)] [.int (-1), .long _, .long _] _ _ _ _
      refine pm_e_sim pm_a61_9 rfl ?_
      show pm_E _ _ _ 10 [(0, .ref 18), (1, .int _)] [.long _, .long _, .long _] _ _ _ _
      refine pm_e_call (T2 := pm_mm50) pm_a61_10 rfl rfl rfl rfl rfl rfl rfl rfl rfl ?_
      show pm_E _ _ _ 0 [(0, .long _), (2, .long _), (4, .long _)] [] _ _ _ _
      refine pm_e_sim pm_a50_0 rfl ?_
      show pm_E _ _ _ 1 [(0, .long _), (2, .long _), (4, .long _)] [.long _] _ _ _ _
      refine pm_e_sim pm_a50_1 rfl ?_
      show pm_E _ _ _ 2 [(0, .long _), (2, .long _), (4, .long _)] [.long _, .long _] _ _ _ _
      refine pm_e_sim pm_a50_2 rfl ?_
      show pm_E _ _ _ 3 [(0, .long _), (2, .long _), (4, .long _)] [.int _] _ _ _ _
      refine pm_e_iff pm_a50_3 rfl (pm_zl_gt 0 (by decide +kernel) (by omega) (by decide +kernel)) ?_
      show pm_E _ _ _ 6 [(0, .long _), (2, .long _), (4, .long _)] [] _ _ _ _
      refine pm_e_sim pm_a50_6 rfl ?_
      show pm_E _ _ _ 7 [(0, .long _), (2, .long _), (4, .long _)] [.long _] _ _ _ _
      refine pm_e_sim pm_a50_7 rfl ?_
      show pm_E _ _ _ 9 [(0, .long _), (2, .long _), (4, .long _)] [.long _, .long _] _ _ _ _
      refine pm_e_sim pm_a50_9 rfl ?_
      show pm_E _ _ _ 10 [(0, .long _), (2, .long _), (4, .long _)] [.int _] _ _ _ _
      refine pm_e_ift pm_a50_10 rfl (pm_zl_gt (-1) (by decide +kernel) (by omega) (by decide +kernel)) ?_
      show pm_E _ _ _ 17 [(0, .long _), (2, .long _), (4, .long _)] [] _ _ _ _
      refine pm_e_sim pm_a50_17 rfl ?_
      refine pm_e_top (y := 0) (by decide +kernel) ?_
      show pm_E _ _ _ 18 [(0, .long _), (2, .long _), (4, .long _)] [.int 0] _ _ _ _
      refine pm_e_ret pm_a50_18 rfl rfl rfl rfl rfl rfl rfl rfl ?_
      show pm_E _ _ _ 13 [(0, .ref 18), (1, .int _)] [.int 0] _ _ _ _
      refine pm_e_ret pm_a61_13 rfl rfl rfl rfl rfl rfl rfl rfl ?_
      show pm_E _ _ _ 5 [(0, .ref 18), (1, .int _), (2, .int _)] [.int 0] _ _ _ _
      refine pm_e_ift pm_a66_5 rfl (by decide +kernel) ?_
      show pm_E _ _ _ 16 [(0, .ref 18), (1, .int _), (2, .int _)] [] _ _ _ _
      refine pm_e_sim pm_a66_16 rfl ?_
      refine pm_e_top (y := (-1)) (by decide +kernel) ?_
      show pm_E _ _ _ 17 [(0, .ref 18), (1, .int _), (2, .int _)] [.int (-1)] _ _ _ _
      refine pm_e_ret pm_a66_17 rfl rfl rfl rfl rfl rfl rfl rfl ?_
      show pm_E _ _ _ 425 [(3, .int 0), (2, .ref 18), (1, .ref 0), (0, .retAddr 0)] [.int (-1), .int (-1)] _ _ _ _
      refine pm_e_ict pm_a0_425 rfl (by decide +kernel) ?_
      show pm_E _ _ _ 779 [(3, .int 0), (2, .ref 18), (1, .ref 0), (0, .retAddr 0)] [] _ _ _ _
      refine pm_e_inc (y := 6) pm_a0_779 rfl (by decide +kernel) (by decide +kernel) rfl ?_
      show pm_E _ _ _ 782 [(3, .int 6), (2, .ref 18), (1, .ref 0), (0, .retAddr 0)] [] _ _ _ _
      refine pm_e_goto pm_a0_782 rfl ?_
      show pm_E _ _ _ 18 [(3, .int 6), (2, .ref 18), (1, .ref 0), (0, .retAddr 0)] [] _ _ _ _
      refine pm_e_sim pm_a0_18 rfl ?_
      show pm_E _ _ _ 19 [(3, .int 6), (2, .ref 18), (1, .ref 0), (0, .retAddr 0)] [.int 6] _ _ _ _
      refine pm_e_sim pm_a0_19 rfl ?_
      show pm_E _ _ _ 20 [(3, .int 6), (2, .ref 18), (1, .ref 0), (0, .retAddr 0)] [.retAddr 0, .int 6] _ _ _ _
      refine pm_e_rd pm_a0_20 rfl rfl rfl ?_
      dsimp only
      refine pm_e_top (y := 6) (by decide +kernel) ?_
      show pm_E _ _ _ 21 [(3, .int 6), (2, .ref 18), (1, .ref 0), (0, .retAddr 0)] [.int 6, .int 6] _ _ _ _
      refine pm_e_sim pm_a0_21 rfl ?_
      refine pm_e_top (y := 6) (by decide +kernel) ?_
      show pm_E _ _ _ 23 [(3, .int 6), (2, .ref 18), (1, .ref 0), (0, .retAddr 0)] [.int 6, .int 6, .int 6] _ _ _ _
      refine pm_e_sim pm_a0_23 rfl ?_
      refine pm_e_top (y := 0) (by decide +kernel) ?_
      show pm_E _ _ _ 24 [(3, .int 6), (2, .ref 18), (1, .ref 0), (0, .retAddr 0)] [.int 0, .int 6] _ _ _ _
      refine pm_e_ict pm_a0_24 rfl (by decide +kernel) ?_
      show pm_E _ _ _ 785 [(3, .int 6), (2, .ref 18), (1, .ref 0), (0, .retAddr 0)] [] _ _ _ _
      refine pm_e_sim pm_a0_785 rfl ?_
      refine pm_e_top (y := 1) (by decide +kernel) ?_
      show pm_E _ _ _ 786 [(3, .int 6), (2, .ref 18), (1, .ref 0), (0, .retAddr 0)] [.int 1] _ _ _ _
      refine pm_e_ret pm_a0_786 rfl rfl rfl rfl rfl rfl rfl rfl ?_
      exact hQ _ _ _ (by decide +kernel) (by decide +kernel)
    · refine pm_e_tsi (t := 397) pm_a0_33 rfl (by decide +kernel) ?_
      show pm_E _ _ _ 397 [(3, .int 0), (2, .ref 18), (1, .ref 0), (0, .retAddr 0)] [] _ _ _ _
      refine pm_e_sim pm_a0_397 rfl ?_
      show pm_E _ _ _ 398 [(3, .int 0), (2, .ref 18), (1, .ref 0), (0, .retAddr 0)] [.ref 0] _ _ _ _
      refine pm_e_sim pm_a0_398 rfl ?_
      show pm_E _ _ _ 399 [(3, .int 0), (2, .ref 18), (1, .ref 0), (0, .retAddr 0)] [.retAddr 0, .ref 0] _ _ _ _
      refine pm_e_sim pm_a0_399 rfl ?_
      show pm_E _ _ _ 400 [(3, .int 0), (2, .ref 18), (1, .ref 0), (0, .retAddr 0)] [.int 0, .retAddr 0, .ref 0] _ _ _ _
      refine pm_e_sim pm_a0_400 rfl ?_
      refine pm_e_top (y := 1) (by decide +kernel) ?_
      show pm_E _ _ _ 401 [(3, .int 0), (2, .ref 18), (1, .ref 0), (0, .retAddr 0)] [.int 1, .int 0, .retAddr 0, .ref 0] _ _ _ _
      refine pm_e_sim pm_a0_401 rfl ?_
      refine pm_e_top (y := 1) (by decide +kernel) ?_
      show pm_E _ _ _ 402 [(3, .int 0), (2, .ref 18), (1, .ref 0), (0, .retAddr 0)] [.int 1, .retAddr 0, .ref 0] _ _ _ _
      refine pm_e_sld (j := 1) pm_a0_402 (by decide +kernel) ?_
      show pm_E _ _ _ 403 [(3, .int 0), (2, .ref 18), (1, .ref 0), (0, .retAddr 0)] [.int _, .ref 0] _ _ _ _
      refine pm_e_sim pm_a0_403 rfl ?_
      show pm_E _ _ _ 404 [(3, .int 0), (2, .ref 18), (1, .ref 0), (0, .retAddr 0)] [.retAddr 0, .int _, .ref 0] _ _ _ _
      refine pm_e_sim pm_a0_404 rfl ?_
      show pm_E _ _ _ 405 [(3, .int 0), (2, .ref 18), (1, .ref 0), (0, .retAddr 0)] [.int 0, .retAddr 0, .int _, .ref 0] _ _ _ _
      refine pm_e_sim pm_a0_405 rfl ?_
      refine pm_e_top (y := 2) (by decide +kernel) ?_
      show pm_E _ _ _ 406 [(3, .int 0), (2, .ref 18), (1, .ref 0), (0, .retAddr 0)] [.int 2, .int 0, .retAddr 0, .int _, .ref 0] _ _ _ _
      refine pm_e_sim pm_a0_406 rfl ?_
      refine pm_e_top (y := 2) (by decide +kernel) ?_
      show pm_E _ _ _ 407 [(3, .int 0), (2, .ref 18), (1, .ref 0), (0, .retAddr 0)] [.int 2, .retAddr 0, .int _, .ref 0] _ _ _ _
      refine pm_e_sld (j := 2) pm_a0_407 (by decide +kernel) ?_
      show pm_E _ _ _ 408 [(3, .int 0), (2, .ref 18), (1, .ref 0), (0, .retAddr 0)] [.int _, .int _, .ref 0] _ _ _ _
      refine pm_e_call (T2 := pm_mm31) pm_a0_408 rfl rfl rfl rfl rfl rfl rfl rfl rfl ?_
      show pm_E _ _ _ 0 [(0, .ref 0), (1, .int _), (2, .int _)] [] _ _ _ _
      refine pm_e_sim pm_a31_0 rfl ?_
      show pm_E _ _ _ 1 [(0, .ref 0), (1, .int _), (2, .int _)] [.ref 0] _ _ _ _
      refine pm_e_sim pm_a31_1 rfl ?_
      show pm_E _ _ _ 2 [(0, .ref 0), (1, .int _), (2, .int _)] [.int _, .ref 0] _ _ _ _
      refine pm_e_call (T2 := pm_mm26) pm_a31_2 rfl rfl rfl rfl rfl rfl rfl rfl rfl ?_
      show pm_E _ _ _ 0 [(0, .ref 0), (1, .int _)] [] _ _ _ _
      refine pm_e_sim pm_a26_0 rfl ?_
      show pm_E _ _ _ 1 [(0, .ref 0), (1, .int _)] [.int _] _ _ _ _
      refine pm_e_iff pm_a26_1 rfl (pm_z_lt_f 0 (by decide +kernel) (by omega)) ?_
      show pm_E _ _ _ 4 [(0, .ref 0), (1, .int _)] [] _ _ _ _
      refine pm_e_sim pm_a26_4 rfl ?_
      show pm_E _ _ _ 5 [(0, .ref 0), (1, .int _)] [.int _] _ _ _ _
      refine pm_e_sim pm_a26_5 rfl ?_
      show pm_E _ _ _ 6 [(0, .ref 0), (1, .int _)] [.ref 0, .int _] _ _ _ _
      refine pm_e_rd pm_a26_6 rfl rfl rfl ?_
      show pm_E _ _ _ 9 [(0, .ref 0), (1, .int _)] [.int 0, .int _] _ _ _ _
      refine pm_e_ict pm_a26_9 rfl (pm_z_ge_t 0 (by decide +kernel) (by omega)) ?_
      show pm_E _ _ _ 30 [(0, .ref 0), (1, .int _)] [] _ _ _ _
      refine pm_e_sim pm_a26_30 rfl ?_
      show pm_E _ _ _ 31 [(0, .ref 0), (1, .int _)] [.null] _ _ _ _
      refine pm_e_ret pm_a26_31 rfl rfl rfl rfl rfl rfl rfl rfl ?_
      show pm_E _ _ _ 5 [(0, .ref 0), (1, .int _), (2, .int _)] [.null] _ _ _ _
      refine pm_e_sim pm_a31_5 rfl ?_
      show pm_E _ _ _ 6 [(3, .null), (0, .ref 0), (1, .int _), (2, .int _)] [] _ _ _ _
      refine pm_e_sim pm_a31_6 rfl ?_
      show pm_E _ _ _ 7 [(3, .null), (0, .ref 0), (1, .int _), (2, .int _)] [.ref 0] _ _ _ _
      refine pm_e_sim pm_a31_7 rfl ?_
      show pm_E _ _ _ 8 [(3, .null), (0, .ref 0), (1, .int _), (2, .int _)] [.int _, .ref 0] _ _ _ _
      refine pm_e_call (T2 := pm_mm26) pm_a31_8 rfl rfl rfl rfl rfl rfl rfl rfl rfl ?_
      show pm_E _ _ _ 0 [(0, .ref 0), (1, .int _)] [] _ _ _ _
      refine pm_e_sim pm_a26_0 rfl ?_
      show pm_E _ _ _ 1 [(0, .ref 0), (1, .int _)] [.int _] _ _ _ _
      refine pm_e_iff pm_a26_1 rfl (pm_z_lt_f 0 (by decide +kernel) (by omega)) ?_
      show pm_E _ _ _ 4 [(0, .ref 0), (1, .int _)] [] _ _ _ _
      refine pm_e_sim pm_a26_4 rfl ?_
      show pm_E _ _ _ 5 [(0, .ref 0), (1, .int _)] [.int _] _ _ _ _
      refine pm_e_sim pm_a26_5 rfl ?_
      show pm_E _ _ _ 6 [(0, .ref 0), (1, .int _)] [.ref 0, .int _] _ _ _ _
      refine pm_e_rd pm_a26_6 rfl rfl rfl ?_
      show pm_E _ _ _ 9 [(0, .ref 0), (1, .int _)] [.int 0, .int _] _ _ _ _
      refine pm_e_ict pm_a26_9 rfl (pm_z_ge_t 0 (by decide +kernel) (by omega)) ?_
      show pm_E _ _ _ 30 [(0, .ref 0), (1, .int _)] [] _ _ _ _
      refine pm_e_sim pm_a26_30 rfl ?_
      show pm_E _ _ _ 31 [(0, .ref 0), (1, .int _)] [.null] _ _ _ _
      refine pm_e_ret pm_a26_31 rfl rfl rfl rfl rfl rfl rfl rfl ?_
      show pm_E _ _ _ 11 [(3, .null), (0, .ref 0), (1, .int _), (2, .int _)] [.null] _ _ _ _
      refine pm_e_sim pm_a31_11 rfl ?_
      show pm_E _ _ _ 13 [(4, .null), (3, .null), (0, .ref 0), (1, .int _), (2, .int _)] [] _ _ _ _
      refine pm_e_sim pm_a31_13 rfl ?_
      show pm_E _ _ _ 14 [(4, .null), (3, .null), (0, .ref 0), (1, .int _), (2, .int _)] [.null] _ _ _ _
      refine pm_e_jmp (pc2 := 22) pm_a31_14 rfl rfl ?_
      show pm_E _ _ _ 22 [(4, .null), (3, .null), (0, .ref 0), (1, .int _), (2, .int _)] [] _ _ _ _
      refine pm_e_sim pm_a31_22 rfl ?_
      refine pm_e_top (y := (-1)) (by decide +kernel) ?_
      show pm_E _ _ _ 23 [(4, .null), (3, .null), (0, .ref 0), (1, .int _), (2, .int _)] [.int (-1)] _ _ _ _
      refine pm_e_ret pm_a31_23 rfl rfl rfl rfl rfl rfl rfl rfl ?_
      show pm_E _ _ _ 411 [(3, .int 0), (2, .ref 18), (1, .ref 0), (0, .retAddr 0)] [.int (-1)] _ _ _ _
      refine pm_e_sim pm_a0_411 rfl ?_
      show pm_E _ _ _ 412 [(3, .int 0), (2, .ref 18), (1, .ref 0), (0, .retAddr 0)] [.ref 18, .int (-1)] _ _ _ _
      refine pm_e_sim pm_a0_412 rfl ?_
      show pm_E _ _ _ 413 [(3, .int 0), (2, .ref 18), (1, .ref 0), (0, .retAddr 0)] [.retAddr 0, .ref 18, .int (-1)] _ _ _ _
      refine pm_e_sim pm_a0_413 rfl ?_
      show pm_E _ _ _ 414 [(3, .int 0), (2, .ref 18), (1, .ref 0), (0, .retAddr 0)] [.int 0, .retAddr 0, .ref 18, .int (-1)] _ _ _ _
      refine pm_e_sim pm_a0_414 rfl ?_
      refine pm_e_top (y := 1) (by decide +kernel) ?_
      show pm_E _ _ _ 415 [(3, .int 0), (2, .ref 18), (1, .ref 0), (0, .retAddr 0)] [.int 1, .int 0, .retAddr 0, .ref 18, .int (-1)] _ _ _ _
      refine pm_e_sim pm_a0_415 rfl ?_
      refine pm_e_top (y := 1) (by decide +kernel) ?_
      show pm_E _ _ _ 416 [(3, .int 0), (2, .ref 18), (1, .ref 0), (0, .retAddr 0)] [.int 1, .retAddr 0, .ref 18, .int (-1)] _ _ _ _
      refine pm_e_sld (j := 1) pm_a0_416 (by decide +kernel) ?_
      show pm_E _ _ _ 417 [(3, .int 0), (2, .ref 18), (1, .ref 0), (0, .retAddr 0)] [.int _, .ref 18, .int (-1)] _ _ _ _
      refine pm_e_sim pm_a0_417 rfl ?_
      show pm_E _ _ _ 418 [(3, .int 0), (2, .ref 18), (1, .ref 0), (0, .retAddr 0)] [.retAddr 0, .int _, .ref 18, .int (-1)] _ _ _ _
      refine pm_e_sim pm_a0_418 rfl ?_
      show pm_E _ _ _ 419 [(3, .int 0), (2, .ref 18), (1, .ref 0), (0, .retAddr 0)] [.int 0, .retAddr 0, .int _, .ref 18, .int (-1)] _ _ _ _
      refine pm_e_sim pm_a0_419 rfl ?_
      refine pm_e_top (y := 2) (by decide +kernel) ?_
      show pm_E _ _ _ 420 [(3, .int 0), (2, .ref 18), (1, .ref 0), (0, .retAddr 0)] [.int 2, .int 0, .retAddr 0, .int _, .ref 18, .int (-1)] _ _ _ _
      refine pm_e_sim pm_a0_420 rfl ?_
      refine pm_e_top (y := 2) (by decide +kernel) ?_
      show pm_E _ _ _ 421 [(3, .int 0), (2, .ref 18), (1, .ref 0), (0, .retAddr 0)] [.int 2, .retAddr 0, .int _, .ref 18, .int (-1)] _ _ _ _
      refine pm_e_sld (j := 2) pm_a0_421 (by decide +kernel) ?_
      show pm_E _ _ _ 422 [(3, .int 0), (2, .ref 18), (1, .ref 0), (0, .retAddr 0)] [.int _, .int _, .ref 18, .int (-1)] _ _ _ _
      refine pm_e_call (T2 := pm_mm66) pm_a0_422 rfl rfl rfl rfl rfl rfl rfl rfl rfl ?_
      show pm_E _ _ _ 0 [(0, .ref 18), (1, .int _), (2, .int _)] [] _ _ _ _
      refine pm_e_sim pm_a66_0 rfl ?_
      show pm_E _ _ _ 1 [(0, .ref 18), (1, .int _), (2, .int _)] [.ref 18] _ _ _ _
      refine pm_e_sim pm_a66_1 rfl ?_
      show pm_E _ _ _ 2 [(0, .ref 18), (1, .int _), (2, .int _)] [.int _, .ref 18] _ _ _ _
      refine pm_e_call (T2 := pm_mm61) pm_a66_2 rfl rfl rfl rfl rfl rfl rfl rfl rfl ?_
      show pm_E _ _ _ 0 [(0, .ref 18), (1, .int _)] [] _ _ _ _
      refine pm_e_sim pm_a61_0 rfl ?_
      show pm_E _ _ _ 1 [(0, .ref 18), (1, .int _)] [.int _] _ _ _ _
      refine pm_e_sim pm_a61_1 rfl ?_
      show pm_E _ _ _ 2 [(0, .ref 18), (1, .int _)] [.long _] _ _ _ _
      refine pm_e_sim pm_a61_2 rfl ?_
      show pm_E _ _ _ 3 [(0, .ref 18), (1, .int _)] [.long _, .long _] _ _ _ _
      refine pm_e_sim pm_a61_3 rfl ?_
      show pm_E _ _ _ 4 [(0, .ref 18), (1, .int _)] [.ref 18, .long _, .long _] _ _ _ _
      refine pm_e_rd pm_a61_4 rfl rfl rfl ?_
      show pm_E _ _ _ 7 [(0, .ref 18), (1, .int _)] [.int 0, .long _, .long _] _ _ _ _
      refine pm_e_sim pm_a61_7 rfl ?_
      refine pm_e_top (y := 1) (by decide +kernel) ?_
      show pm_E _ _ _ 8 [(0, .ref 18), (1, .int _)] [.int 1, .int 0, .long _, .long _] _ _ _ _
      refine pm_e_sim pm_a61_8 rfl ?_
      refine pm_e_top (y := (-1)) (by decide +kernel) ?_
      show pm_E _ _ _ 9 [(0, .ref 18), (1, .int _)] [.int (-1), .long _, .long _] _ _ _ _
      refine pm_e_sim pm_a61_9 rfl ?_
      show pm_E _ _ _ 10 [(0, .ref 18), (1, .int _)] [.long _, .long _, .long _] _ _ _ _
      refine pm_e_call (T2 := pm_mm50) pm_a61_10 rfl rfl rfl rfl rfl rfl rfl rfl rfl ?_
      show pm_E _ _ _ 0 [(0, .long _), (2, .long _), (4, .long _)] [] _ _ _ _
      refine pm_e_sim pm_a50_0 rfl ?_
      show pm_E _ _ _ 1 [(0, .long _), (2, .long _), (4, .long _)] [.long _] _ _ _ _
      refine pm_e_sim pm_a50_1 rfl ?_
      show pm_E _ _ _ 2 [(0, .long _), (2, .long _), (4, .long _)] [.long _, .long _] _ _ _ _
      refine pm_e_sim pm_a50_2 rfl ?_
      show pm_E _ _ _ 3 [(0, .long _), (2, .long _), (4, .long _)] [.int _] _ _ _ _
      refine pm_e_iff pm_a50_3 rfl (pm_zl_gt 0 (by decide +kernel) (by omega) (by decide +kernel)) ?_
      show pm_E _ _ _ 6 [(0, .long _), (2, .long _), (4, .long _)] [] _ _ _ _
      refine pm_e_sim pm_a50_6 rfl ?_
      show pm_E _ _ _ 7 [(0, .long _), (2, .long _), (4, .long _)] [.long _] _ _ _ _
      refine pm_e_sim pm_a50_7 rfl ?_
      show pm_E _ _ _ 9 [(0, .long _), (2, .long _), (4, .long _)] [.long _, .long _] _ _ _ _
      refine pm_e_sim pm_a50_9 rfl ?_
      show pm_E _ _ _ 10 [(0, .long _), (2, .long _), (4, .long _)] [.int _] _ _ _ _
      refine pm_e_ift pm_a50_10 rfl (pm_zl_gt (-1) (by decide +kernel) (by omega) (by decide +kernel)) ?_
      show pm_E _ _ _ 17 [(0, .long _), (2, .long _), (4, .long _)] [] _ _ _ _
      refine pm_e_sim pm_a50_17 rfl ?_
      refine pm_e_top (y := 0) (by decide +kernel) ?_
      show pm_E _ _ _ 18 [(0, .long _), (2, .long _), (4, .long _)] [.int 0] _ _ _ _
      refine pm_e_ret pm_a50_18 rfl rfl rfl rfl rfl rfl rfl rfl ?_
      show pm_E _ _ _ 13 [(0, .ref 18), (1, .int _)] [.int 0] _ _ _ _
      refine pm_e_ret pm_a61_13 rfl rfl rfl rfl rfl rfl rfl rfl ?_
      show pm_E _ _ _ 5 [(0, .ref 18), (1, .int _), (2, .int _)] [.int 0] _ _ _ _
      refine pm_e_ift pm_a66_5 rfl (by decide +kernel) ?_
      show pm_E _ _ _ 16 [(0, .ref 18), (1, .int _), (2, .int _)] [] _ _ _ _
      refine pm_e_sim pm_a66_16 rfl ?_
      refine pm_e_top (y := (-1)) (by decide +kernel) ?_
      show pm_E _ _ _ 17 [(0, .ref 18), (1, .int _), (2, .int _)] [.int (-1)] _ _ _ _
      refine pm_e_ret pm_a66_17 rfl rfl rfl rfl rfl rfl rfl rfl ?_
      show pm_E _ _ _ 425 [(3, .int 0), (2, .ref 18), (1, .ref 0), (0, .retAddr 0)] [.int (-1), .int (-1)] _ _ _ _
      refine pm_e_ict pm_a0_425 rfl (by decide +kernel) ?_
      show pm_E _ _ _ 779 [(3, .int 0), (2, .ref 18), (1, .ref 0), (0, .retAddr 0)] [] _ _ _ _
      refine pm_e_inc (y := 6) pm_a0_779 rfl (by decide +kernel) (by decide +kernel) rfl ?_
      show pm_E _ _ _ 782 [(3, .int 6), (2, .ref 18), (1, .ref 0), (0, .retAddr 0)] [] _ _ _ _
      refine pm_e_goto pm_a0_782 rfl ?_
      show pm_E _ _ _ 18 [(3, .int 6), (2, .ref 18), (1, .ref 0), (0, .retAddr 0)] [] _ _ _ _
      refine pm_e_sim pm_a0_18 rfl ?_
      show pm_E _ _ _ 19 [(3, .int 6), (2, .ref 18), (1, .ref 0), (0, .retAddr 0)] [.int 6] _ _ _ _
      refine pm_e_sim pm_a0_19 rfl ?_
      show pm_E _ _ _ 20 [(3, .int 6), (2, .ref 18), (1, .ref 0), (0, .retAddr 0)] [.retAddr 0, .int 6] _ _ _ _
      refine pm_e_rd pm_a0_20 rfl rfl rfl ?_
      dsimp only
      refine pm_e_top (y := 6) (by decide +kernel) ?_
      show pm_E _ _ _ 21 [(3, .int 6), (2, .ref 18), (1, .ref 0), (0, .retAddr 0)] [.int 6, .int 6] _ _ _ _
      refine pm_e_sim pm_a0_21 rfl ?_
      refine pm_e_top (y := 6) (by decide +kernel) ?_
      show pm_E _ _ _ 23 [(3, .int 6), (2, .ref 18), (1, .ref 0), (0, .retAddr 0)] [.int 6, .int 6, .int 6] _ _ _ _
      refine pm_e_sim pm_a0_23 rfl ?_
      refine pm_e_top (y := 0) (by decide +kernel) ?_
      show pm_E _ _ _ 24 [(3, .int 6), (2, .ref 18), (1, .ref 0), (0, .retAddr 0)] [.int 0, .int 6] _ _ _ _
      refine pm_e_ict pm_a0_24 rfl (by decide +kernel) ?_
      show pm_E _ _ _ 785 [(3, .int 6), (2, .ref 18), (1, .ref 0), (0, .retAddr 0)] [] _ _ _ _
      refine pm_e_sim pm_a0_785 rfl ?_
      refine pm_e_top (y := 1) (by decide +kernel) ?_
      show pm_E _ _ _ 786 [(3, .int 6), (2, .ref 18), (1, .ref 0), (0, .retAddr 0)] [.int 1] _ _ _ _
      refine pm_e_ret pm_a0_786 rfl rfl rfl rfl rfl rfl rfl rfl ?_
      exact hQ _ _ _ (by decide +kernel) (by decide +kernel)
set_option maxHeartbeats 40000000 in
set_option maxRecDepth 200000 in
theorem pm_op10 (xs : Nat → Int32) {Q : Option Value → List va_E → Nat → Nat → Prop} (hQ : ∀ ph c n, c ≤ 600000 → n ≤ 7302250 → Q (some (.int 1)) ph c n) : pm_E (some (6, xs)) 11 pm_mm0 33 pm_L0 [.int (nI 10)] pm_H0 50 194358 Q := by
  refine pm_e_top (y := 10) (by decide +kernel) ?_
  rcases (show (xs 1).toInt < 0 ∨ (xs 1).toInt = 0 ∨ 0 < (xs 1).toInt by omega) with h1 | h1 | h1
  · refine pm_e_tsi (t := 430) pm_a0_33 rfl (by decide +kernel) ?_
    show pm_E _ _ _ 430 [(3, .int 0), (2, .ref 18), (1, .ref 0), (0, .retAddr 0)] [] _ _ _ _
    refine pm_e_sim pm_a0_430 rfl ?_
    show pm_E _ _ _ 431 [(3, .int 0), (2, .ref 18), (1, .ref 0), (0, .retAddr 0)] [.ref 0] _ _ _ _
    refine pm_e_sim pm_a0_431 rfl ?_
    show pm_E _ _ _ 432 [(3, .int 0), (2, .ref 18), (1, .ref 0), (0, .retAddr 0)] [.retAddr 0, .ref 0] _ _ _ _
    refine pm_e_sim pm_a0_432 rfl ?_
    show pm_E _ _ _ 433 [(3, .int 0), (2, .ref 18), (1, .ref 0), (0, .retAddr 0)] [.int 0, .retAddr 0, .ref 0] _ _ _ _
    refine pm_e_sim pm_a0_433 rfl ?_
    refine pm_e_top (y := 1) (by decide +kernel) ?_
    show pm_E _ _ _ 434 [(3, .int 0), (2, .ref 18), (1, .ref 0), (0, .retAddr 0)] [.int 1, .int 0, .retAddr 0, .ref 0] _ _ _ _
    refine pm_e_sim pm_a0_434 rfl ?_
    refine pm_e_top (y := 1) (by decide +kernel) ?_
    show pm_E _ _ _ 435 [(3, .int 0), (2, .ref 18), (1, .ref 0), (0, .retAddr 0)] [.int 1, .retAddr 0, .ref 0] _ _ _ _
    refine pm_e_sld (j := 1) pm_a0_435 (by decide +kernel) ?_
    show pm_E _ _ _ 436 [(3, .int 0), (2, .ref 18), (1, .ref 0), (0, .retAddr 0)] [.int _, .ref 0] _ _ _ _
    refine pm_e_sim pm_a0_436 rfl ?_
    show pm_E _ _ _ 437 [(3, .int 0), (2, .ref 18), (1, .ref 0), (0, .retAddr 0)] [.retAddr 0, .int _, .ref 0] _ _ _ _
    refine pm_e_sim pm_a0_437 rfl ?_
    show pm_E _ _ _ 438 [(3, .int 0), (2, .ref 18), (1, .ref 0), (0, .retAddr 0)] [.int 0, .retAddr 0, .int _, .ref 0] _ _ _ _
    refine pm_e_sim pm_a0_438 rfl ?_
    refine pm_e_top (y := 2) (by decide +kernel) ?_
    show pm_E _ _ _ 439 [(3, .int 0), (2, .ref 18), (1, .ref 0), (0, .retAddr 0)] [.int 2, .int 0, .retAddr 0, .int _, .ref 0] _ _ _ _
    refine pm_e_sim pm_a0_439 rfl ?_
    refine pm_e_top (y := 2) (by decide +kernel) ?_
    show pm_E _ _ _ 440 [(3, .int 0), (2, .ref 18), (1, .ref 0), (0, .retAddr 0)] [.int 2, .retAddr 0, .int _, .ref 0] _ _ _ _
    refine pm_e_sld (j := 2) pm_a0_440 (by decide +kernel) ?_
    show pm_E _ _ _ 441 [(3, .int 0), (2, .ref 18), (1, .ref 0), (0, .retAddr 0)] [.int _, .int _, .ref 0] _ _ _ _
    refine pm_e_call (T2 := pm_mm32) pm_a0_441 rfl rfl rfl rfl rfl rfl rfl rfl rfl ?_
    show pm_E _ _ _ 0 [(0, .ref 0), (1, .int _), (2, .int _)] [] _ _ _ _
    refine pm_e_sim pm_a32_0 rfl ?_
    show pm_E _ _ _ 1 [(0, .ref 0), (1, .int _), (2, .int _)] [.ref 0] _ _ _ _
    refine pm_e_sim pm_a32_1 rfl ?_
    show pm_E _ _ _ 2 [(0, .ref 0), (1, .int _), (2, .int _)] [.int _, .ref 0] _ _ _ _
    refine pm_e_call (T2 := pm_mm26) pm_a32_2 rfl rfl rfl rfl rfl rfl rfl rfl rfl ?_
    show pm_E _ _ _ 0 [(0, .ref 0), (1, .int _)] [] _ _ _ _
    refine pm_e_sim pm_a26_0 rfl ?_
    show pm_E _ _ _ 1 [(0, .ref 0), (1, .int _)] [.int _] _ _ _ _
    refine pm_e_ift pm_a26_1 rfl (pm_z_lt_t 0 (by decide +kernel) (by omega)) ?_
    show pm_E _ _ _ 30 [(0, .ref 0), (1, .int _)] [] _ _ _ _
    refine pm_e_sim pm_a26_30 rfl ?_
    show pm_E _ _ _ 31 [(0, .ref 0), (1, .int _)] [.null] _ _ _ _
    refine pm_e_ret pm_a26_31 rfl rfl rfl rfl rfl rfl rfl rfl ?_
    show pm_E _ _ _ 5 [(0, .ref 0), (1, .int _), (2, .int _)] [.null] _ _ _ _
    refine pm_e_sim pm_a32_5 rfl ?_
    show pm_E _ _ _ 6 [(3, .null), (0, .ref 0), (1, .int _), (2, .int _)] [] _ _ _ _
    refine pm_e_sim pm_a32_6 rfl ?_
    show pm_E _ _ _ 7 [(3, .null), (0, .ref 0), (1, .int _), (2, .int _)] [.null] _ _ _ _
    refine pm_e_jmp (pc2 := 17) pm_a32_7 rfl rfl ?_
    show pm_E _ _ _ 17 [(3, .null), (0, .ref 0), (1, .int _), (2, .int _)] [] _ _ _ _
    refine pm_e_sim pm_a32_17 rfl ?_
    refine pm_e_top (y := (-1)) (by decide +kernel) ?_
    show pm_E _ _ _ 18 [(3, .null), (0, .ref 0), (1, .int _), (2, .int _)] [.int (-1)] _ _ _ _
    refine pm_e_goto pm_a32_18 rfl ?_
    show pm_E _ _ _ 30 [(3, .null), (0, .ref 0), (1, .int _), (2, .int _)] [.int (-1)] _ _ _ _
    refine pm_e_ret pm_a32_30 rfl rfl rfl rfl rfl rfl rfl rfl ?_
    show pm_E _ _ _ 444 [(3, .int 0), (2, .ref 18), (1, .ref 0), (0, .retAddr 0)] [.int (-1)] _ _ _ _
    refine pm_e_sim pm_a0_444 rfl ?_
    show pm_E _ _ _ 445 [(3, .int 0), (2, .ref 18), (1, .ref 0), (0, .retAddr 0)] [.ref 18, .int (-1)] _ _ _ _
    refine pm_e_sim pm_a0_445 rfl ?_
    show pm_E _ _ _ 446 [(3, .int 0), (2, .ref 18), (1, .ref 0), (0, .retAddr 0)] [.retAddr 0, .ref 18, .int (-1)] _ _ _ _
    refine pm_e_sim pm_a0_446 rfl ?_
    show pm_E _ _ _ 447 [(3, .int 0), (2, .ref 18), (1, .ref 0), (0, .retAddr 0)] [.int 0, .retAddr 0, .ref 18, .int (-1)] _ _ _ _
    refine pm_e_sim pm_a0_447 rfl ?_
    refine pm_e_top (y := 1) (by decide +kernel) ?_
    show pm_E _ _ _ 448 [(3, .int 0), (2, .ref 18), (1, .ref 0), (0, .retAddr 0)] [.int 1, .int 0, .retAddr 0, .ref 18, .int (-1)] _ _ _ _
    refine pm_e_sim pm_a0_448 rfl ?_
    refine pm_e_top (y := 1) (by decide +kernel) ?_
    show pm_E _ _ _ 449 [(3, .int 0), (2, .ref 18), (1, .ref 0), (0, .retAddr 0)] [.int 1, .retAddr 0, .ref 18, .int (-1)] _ _ _ _
    refine pm_e_sld (j := 1) pm_a0_449 (by decide +kernel) ?_
    show pm_E _ _ _ 450 [(3, .int 0), (2, .ref 18), (1, .ref 0), (0, .retAddr 0)] [.int _, .ref 18, .int (-1)] _ _ _ _
    refine pm_e_sim pm_a0_450 rfl ?_
    show pm_E _ _ _ 451 [(3, .int 0), (2, .ref 18), (1, .ref 0), (0, .retAddr 0)] [.retAddr 0, .int _, .ref 18, .int (-1)] _ _ _ _
    refine pm_e_sim pm_a0_451 rfl ?_
    show pm_E _ _ _ 452 [(3, .int 0), (2, .ref 18), (1, .ref 0), (0, .retAddr 0)] [.int 0, .retAddr 0, .int _, .ref 18, .int (-1)] _ _ _ _
    refine pm_e_sim pm_a0_452 rfl ?_
    refine pm_e_top (y := 2) (by decide +kernel) ?_
    show pm_E _ _ _ 453 [(3, .int 0), (2, .ref 18), (1, .ref 0), (0, .retAddr 0)] [.int 2, .int 0, .retAddr 0, .int _, .ref 18, .int (-1)] _ _ _ _
    refine pm_e_sim pm_a0_453 rfl ?_
    refine pm_e_top (y := 2) (by decide +kernel) ?_
    show pm_E _ _ _ 454 [(3, .int 0), (2, .ref 18), (1, .ref 0), (0, .retAddr 0)] [.int 2, .retAddr 0, .int _, .ref 18, .int (-1)] _ _ _ _
    refine pm_e_sld (j := 2) pm_a0_454 (by decide +kernel) ?_
    show pm_E _ _ _ 455 [(3, .int 0), (2, .ref 18), (1, .ref 0), (0, .retAddr 0)] [.int _, .int _, .ref 18, .int (-1)] _ _ _ _
    refine pm_e_call (T2 := pm_mm67) pm_a0_455 rfl rfl rfl rfl rfl rfl rfl rfl rfl ?_
    show pm_E _ _ _ 0 [(0, .ref 18), (1, .int _), (2, .int _)] [] _ _ _ _
    refine pm_e_sim pm_a67_0 rfl ?_
    show pm_E _ _ _ 1 [(0, .ref 18), (1, .int _), (2, .int _)] [.ref 18] _ _ _ _
    refine pm_e_sim pm_a67_1 rfl ?_
    show pm_E _ _ _ 2 [(0, .ref 18), (1, .int _), (2, .int _)] [.int _, .ref 18] _ _ _ _
    refine pm_e_call (T2 := pm_mm61) pm_a67_2 rfl rfl rfl rfl rfl rfl rfl rfl rfl ?_
    show pm_E _ _ _ 0 [(0, .ref 18), (1, .int _)] [] _ _ _ _
    refine pm_e_sim pm_a61_0 rfl ?_
    show pm_E _ _ _ 1 [(0, .ref 18), (1, .int _)] [.int _] _ _ _ _
    refine pm_e_sim pm_a61_1 rfl ?_
    show pm_E _ _ _ 2 [(0, .ref 18), (1, .int _)] [.long _] _ _ _ _
    refine pm_e_sim pm_a61_2 rfl ?_
    show pm_E _ _ _ 3 [(0, .ref 18), (1, .int _)] [.long _, .long _] _ _ _ _
    refine pm_e_sim pm_a61_3 rfl ?_
    show pm_E _ _ _ 4 [(0, .ref 18), (1, .int _)] [.ref 18, .long _, .long _] _ _ _ _
    refine pm_e_rd pm_a61_4 rfl rfl rfl ?_
    show pm_E _ _ _ 7 [(0, .ref 18), (1, .int _)] [.int 0, .long _, .long _] _ _ _ _
    refine pm_e_sim pm_a61_7 rfl ?_
    refine pm_e_top (y := 1) (by decide +kernel) ?_
    show pm_E _ _ _ 8 [(0, .ref 18), (1, .int _)] [.int 1, .int 0, .long _, .long _] _ _ _ _
    refine pm_e_sim pm_a61_8 rfl ?_
    refine pm_e_top (y := (-1)) (by decide +kernel) ?_
    show pm_E _ _ _ 9 [(0, .ref 18), (1, .int _)] [.int (-1), .long _, .long _] _ _ _ _
    refine pm_e_sim pm_a61_9 rfl ?_
    show pm_E _ _ _ 10 [(0, .ref 18), (1, .int _)] [.long _, .long _, .long _] _ _ _ _
    refine pm_e_call (T2 := pm_mm50) pm_a61_10 rfl rfl rfl rfl rfl rfl rfl rfl rfl ?_
    show pm_E _ _ _ 0 [(0, .long _), (2, .long _), (4, .long _)] [] _ _ _ _
    refine pm_e_sim pm_a50_0 rfl ?_
    show pm_E _ _ _ 1 [(0, .long _), (2, .long _), (4, .long _)] [.long _] _ _ _ _
    refine pm_e_sim pm_a50_1 rfl ?_
    show pm_E _ _ _ 2 [(0, .long _), (2, .long _), (4, .long _)] [.long _, .long _] _ _ _ _
    refine pm_e_sim pm_a50_2 rfl ?_
    show pm_E _ _ _ 3 [(0, .long _), (2, .long _), (4, .long _)] [.int _] _ _ _ _
    refine pm_e_ift pm_a50_3 rfl (pm_zl_lt 0 (by decide +kernel) (by omega) (by decide +kernel)) ?_
    show pm_E _ _ _ 17 [(0, .long _), (2, .long _), (4, .long _)] [] _ _ _ _
    refine pm_e_sim pm_a50_17 rfl ?_
    refine pm_e_top (y := 0) (by decide +kernel) ?_
    show pm_E _ _ _ 18 [(0, .long _), (2, .long _), (4, .long _)] [.int 0] _ _ _ _
    refine pm_e_ret pm_a50_18 rfl rfl rfl rfl rfl rfl rfl rfl ?_
    show pm_E _ _ _ 13 [(0, .ref 18), (1, .int _)] [.int 0] _ _ _ _
    refine pm_e_ret pm_a61_13 rfl rfl rfl rfl rfl rfl rfl rfl ?_
    show pm_E _ _ _ 5 [(0, .ref 18), (1, .int _), (2, .int _)] [.int 0] _ _ _ _
    refine pm_e_ift pm_a67_5 rfl (by decide +kernel) ?_
    show pm_E _ _ _ 20 [(0, .ref 18), (1, .int _), (2, .int _)] [] _ _ _ _
    refine pm_e_sim pm_a67_20 rfl ?_
    refine pm_e_top (y := (-1)) (by decide +kernel) ?_
    show pm_E _ _ _ 21 [(0, .ref 18), (1, .int _), (2, .int _)] [.int (-1)] _ _ _ _
    refine pm_e_ret pm_a67_21 rfl rfl rfl rfl rfl rfl rfl rfl ?_
    show pm_E _ _ _ 458 [(3, .int 0), (2, .ref 18), (1, .ref 0), (0, .retAddr 0)] [.int (-1), .int (-1)] _ _ _ _
    refine pm_e_ict pm_a0_458 rfl (by decide +kernel) ?_
    show pm_E _ _ _ 779 [(3, .int 0), (2, .ref 18), (1, .ref 0), (0, .retAddr 0)] [] _ _ _ _
    refine pm_e_inc (y := 6) pm_a0_779 rfl (by decide +kernel) (by decide +kernel) rfl ?_
    show pm_E _ _ _ 782 [(3, .int 6), (2, .ref 18), (1, .ref 0), (0, .retAddr 0)] [] _ _ _ _
    refine pm_e_goto pm_a0_782 rfl ?_
    show pm_E _ _ _ 18 [(3, .int 6), (2, .ref 18), (1, .ref 0), (0, .retAddr 0)] [] _ _ _ _
    refine pm_e_sim pm_a0_18 rfl ?_
    show pm_E _ _ _ 19 [(3, .int 6), (2, .ref 18), (1, .ref 0), (0, .retAddr 0)] [.int 6] _ _ _ _
    refine pm_e_sim pm_a0_19 rfl ?_
    show pm_E _ _ _ 20 [(3, .int 6), (2, .ref 18), (1, .ref 0), (0, .retAddr 0)] [.retAddr 0, .int 6] _ _ _ _
    refine pm_e_rd pm_a0_20 rfl rfl rfl ?_
    dsimp only
    refine pm_e_top (y := 6) (by decide +kernel) ?_
    show pm_E _ _ _ 21 [(3, .int 6), (2, .ref 18), (1, .ref 0), (0, .retAddr 0)] [.int 6, .int 6] _ _ _ _
    refine pm_e_sim pm_a0_21 rfl ?_
    refine pm_e_top (y := 6) (by decide +kernel) ?_
    show pm_E _ _ _ 23 [(3, .int 6), (2, .ref 18), (1, .ref 0), (0, .retAddr 0)] [.int 6, .int 6, .int 6] _ _ _ _
    refine pm_e_sim pm_a0_23 rfl ?_
    refine pm_e_top (y := 0) (by decide +kernel) ?_
    show pm_E _ _ _ 24 [(3, .int 6), (2, .ref 18), (1, .ref 0), (0, .retAddr 0)] [.int 0, .int 6] _ _ _ _
    refine pm_e_ict pm_a0_24 rfl (by decide +kernel) ?_
    show pm_E _ _ _ 785 [(3, .int 6), (2, .ref 18), (1, .ref 0), (0, .retAddr 0)] [] _ _ _ _
    refine pm_e_sim pm_a0_785 rfl ?_
    refine pm_e_top (y := 1) (by decide +kernel) ?_
    show pm_E _ _ _ 786 [(3, .int 6), (2, .ref 18), (1, .ref 0), (0, .retAddr 0)] [.int 1] _ _ _ _
    refine pm_e_ret pm_a0_786 rfl rfl rfl rfl rfl rfl rfl rfl ?_
    exact hQ _ _ _ (by decide +kernel) (by decide +kernel)
  · refine pm_e_tsi (t := 430) pm_a0_33 rfl (by decide +kernel) ?_
    show pm_E _ _ _ 430 [(3, .int 0), (2, .ref 18), (1, .ref 0), (0, .retAddr 0)] [] _ _ _ _
    refine pm_e_sim pm_a0_430 rfl ?_
    show pm_E _ _ _ 431 [(3, .int 0), (2, .ref 18), (1, .ref 0), (0, .retAddr 0)] [.ref 0] _ _ _ _
    refine pm_e_sim pm_a0_431 rfl ?_
    show pm_E _ _ _ 432 [(3, .int 0), (2, .ref 18), (1, .ref 0), (0, .retAddr 0)] [.retAddr 0, .ref 0] _ _ _ _
    refine pm_e_sim pm_a0_432 rfl ?_
    show pm_E _ _ _ 433 [(3, .int 0), (2, .ref 18), (1, .ref 0), (0, .retAddr 0)] [.int 0, .retAddr 0, .ref 0] _ _ _ _
    refine pm_e_sim pm_a0_433 rfl ?_
    refine pm_e_top (y := 1) (by decide +kernel) ?_
    show pm_E _ _ _ 434 [(3, .int 0), (2, .ref 18), (1, .ref 0), (0, .retAddr 0)] [.int 1, .int 0, .retAddr 0, .ref 0] _ _ _ _
    refine pm_e_sim pm_a0_434 rfl ?_
    refine pm_e_top (y := 1) (by decide +kernel) ?_
    show pm_E _ _ _ 435 [(3, .int 0), (2, .ref 18), (1, .ref 0), (0, .retAddr 0)] [.int 1, .retAddr 0, .ref 0] _ _ _ _
    refine pm_e_sld (j := 1) pm_a0_435 (by decide +kernel) ?_
    show pm_E _ _ _ 436 [(3, .int 0), (2, .ref 18), (1, .ref 0), (0, .retAddr 0)] [.int _, .ref 0] _ _ _ _
    refine pm_e_sim pm_a0_436 rfl ?_
    show pm_E _ _ _ 437 [(3, .int 0), (2, .ref 18), (1, .ref 0), (0, .retAddr 0)] [.retAddr 0, .int _, .ref 0] _ _ _ _
    refine pm_e_sim pm_a0_437 rfl ?_
    show pm_E _ _ _ 438 [(3, .int 0), (2, .ref 18), (1, .ref 0), (0, .retAddr 0)] [.int 0, .retAddr 0, .int _, .ref 0] _ _ _ _
    refine pm_e_sim pm_a0_438 rfl ?_
    refine pm_e_top (y := 2) (by decide +kernel) ?_
    show pm_E _ _ _ 439 [(3, .int 0), (2, .ref 18), (1, .ref 0), (0, .retAddr 0)] [.int 2, .int 0, .retAddr 0, .int _, .ref 0] _ _ _ _
    refine pm_e_sim pm_a0_439 rfl ?_
    refine pm_e_top (y := 2) (by decide +kernel) ?_
    show pm_E _ _ _ 440 [(3, .int 0), (2, .ref 18), (1, .ref 0), (0, .retAddr 0)] [.int 2, .retAddr 0, .int _, .ref 0] _ _ _ _
    refine pm_e_sld (j := 2) pm_a0_440 (by decide +kernel) ?_
    show pm_E _ _ _ 441 [(3, .int 0), (2, .ref 18), (1, .ref 0), (0, .retAddr 0)] [.int _, .int _, .ref 0] _ _ _ _
    refine pm_e_call (T2 := pm_mm32) pm_a0_441 rfl rfl rfl rfl rfl rfl rfl rfl rfl ?_
    show pm_E _ _ _ 0 [(0, .ref 0), (1, .int _), (2, .int _)] [] _ _ _ _
    refine pm_e_sim pm_a32_0 rfl ?_
    show pm_E _ _ _ 1 [(0, .ref 0), (1, .int _), (2, .int _)] [.ref 0] _ _ _ _
    refine pm_e_sim pm_a32_1 rfl ?_
    show pm_E _ _ _ 2 [(0, .ref 0), (1, .int _), (2, .int _)] [.int _, .ref 0] _ _ _ _
    refine pm_e_call (T2 := pm_mm26) pm_a32_2 rfl rfl rfl rfl rfl rfl rfl rfl rfl ?_
    show pm_E _ _ _ 0 [(0, .ref 0), (1, .int _)] [] _ _ _ _
    refine pm_e_sim pm_a26_0 rfl ?_
    show pm_E _ _ _ 1 [(0, .ref 0), (1, .int _)] [.int _] _ _ _ _
    refine pm_e_iff pm_a26_1 rfl (pm_z_lt_f 0 (by decide +kernel) (by omega)) ?_
    show pm_E _ _ _ 4 [(0, .ref 0), (1, .int _)] [] _ _ _ _
    refine pm_e_sim pm_a26_4 rfl ?_
    show pm_E _ _ _ 5 [(0, .ref 0), (1, .int _)] [.int _] _ _ _ _
    refine pm_e_sim pm_a26_5 rfl ?_
    show pm_E _ _ _ 6 [(0, .ref 0), (1, .int _)] [.ref 0, .int _] _ _ _ _
    refine pm_e_rd pm_a26_6 rfl rfl rfl ?_
    show pm_E _ _ _ 9 [(0, .ref 0), (1, .int _)] [.int 0, .int _] _ _ _ _
    refine pm_e_ict pm_a26_9 rfl (pm_z_ge_t 0 (by decide +kernel) (by omega)) ?_
    show pm_E _ _ _ 30 [(0, .ref 0), (1, .int _)] [] _ _ _ _
    refine pm_e_sim pm_a26_30 rfl ?_
    show pm_E _ _ _ 31 [(0, .ref 0), (1, .int _)] [.null] _ _ _ _
    refine pm_e_ret pm_a26_31 rfl rfl rfl rfl rfl rfl rfl rfl ?_
    show pm_E _ _ _ 5 [(0, .ref 0), (1, .int _), (2, .int _)] [.null] _ _ _ _
    refine pm_e_sim pm_a32_5 rfl ?_
    show pm_E _ _ _ 6 [(3, .null), (0, .ref 0), (1, .int _), (2, .int _)] [] _ _ _ _
    refine pm_e_sim pm_a32_6 rfl ?_
    show pm_E _ _ _ 7 [(3, .null), (0, .ref 0), (1, .int _), (2, .int _)] [.null] _ _ _ _
    refine pm_e_jmp (pc2 := 17) pm_a32_7 rfl rfl ?_
    show pm_E _ _ _ 17 [(3, .null), (0, .ref 0), (1, .int _), (2, .int _)] [] _ _ _ _
    refine pm_e_sim pm_a32_17 rfl ?_
    refine pm_e_top (y := (-1)) (by decide +kernel) ?_
    show pm_E _ _ _ 18 [(3, .null), (0, .ref 0), (1, .int _), (2, .int _)] [.int (-1)] _ _ _ _
    refine pm_e_goto pm_a32_18 rfl ?_
    show pm_E _ _ _ 30 [(3, .null), (0, .ref 0), (1, .int _), (2, .int _)] [.int (-1)] _ _ _ _
    refine pm_e_ret pm_a32_30 rfl rfl rfl rfl rfl rfl rfl rfl ?_
    show pm_E _ _ _ 444 [(3, .int 0), (2, .ref 18), (1, .ref 0), (0, .retAddr 0)] [.int (-1)] _ _ _ _
    refine pm_e_sim pm_a0_444 rfl ?_
    show pm_E _ _ _ 445 [(3, .int 0), (2, .ref 18), (1, .ref 0), (0, .retAddr 0)] [.ref 18, .int (-1)] _ _ _ _
    refine pm_e_sim pm_a0_445 rfl ?_
    show pm_E _ _ _ 446 [(3, .int 0), (2, .ref 18), (1, .ref 0), (0, .retAddr 0)] [.retAddr 0, .ref 18, .int (-1)] _ _ _ _
    refine pm_e_sim pm_a0_446 rfl ?_
    show pm_E _ _ _ 447 [(3, .int 0), (2, .ref 18), (1, .ref 0), (0, .retAddr 0)] [.int 0, .retAddr 0, .ref 18, .int (-1)] _ _ _ _
    refine pm_e_sim pm_a0_447 rfl ?_
    refine pm_e_top (y := 1) (by decide +kernel) ?_
    show pm_E _ _ _ 448 [(3, .int 0), (2, .ref 18), (1, .ref 0), (0, .retAddr 0)] [.int 1, .int 0, .retAddr 0, .ref 18, .int (-1)] _ _ _ _
    refine pm_e_sim pm_a0_448 rfl ?_
    refine pm_e_top (y := 1) (by decide +kernel) ?_
    show pm_E _ _ _ 449 [(3, .int 0), (2, .ref 18), (1, .ref 0), (0, .retAddr 0)] [.int 1, .retAddr 0, .ref 18, .int (-1)] _ _ _ _
    refine pm_e_sld (j := 1) pm_a0_449 (by decide +kernel) ?_
    show pm_E _ _ _ 450 [(3, .int 0), (2, .ref 18), (1, .ref 0), (0, .retAddr 0)] [.int _, .ref 18, .int (-1)] _ _ _ _
    refine pm_e_sim pm_a0_450 rfl ?_
    show pm_E _ _ _ 451 [(3, .int 0), (2, .ref 18), (1, .ref 0), (0, .retAddr 0)] [.retAddr 0, .int _, .ref 18, .int (-1)] _ _ _ _
    refine pm_e_sim pm_a0_451 rfl ?_
    show pm_E _ _ _ 452 [(3, .int 0), (2, .ref 18), (1, .ref 0), (0, .retAddr 0)] [.int 0, .retAddr 0, .int _, .ref 18, .int (-1)] _ _ _ _
    refine pm_e_sim pm_a0_452 rfl ?_
    refine pm_e_top (y := 2) (by decide +kernel) ?_
    show pm_E _ _ _ 453 [(3, .int 0), (2, .ref 18), (1, .ref 0), (0, .retAddr 0)] [.int 2, .int 0, .retAddr 0, .int _, .ref 18, .int (-1)] _ _ _ _
    refine pm_e_sim pm_a0_453 rfl ?_
    refine pm_e_top (y := 2) (by decide +kernel) ?_
    show pm_E _ _ _ 454 [(3, .int 0), (2, .ref 18), (1, .ref 0), (0, .retAddr 0)] [.int 2, .retAddr 0, .int _, .ref 18, .int (-1)] _ _ _ _
    refine pm_e_sld (j := 2) pm_a0_454 (by decide +kernel) ?_
    show pm_E _ _ _ 455 [(3, .int 0), (2, .ref 18), (1, .ref 0), (0, .retAddr 0)] [.int _, .int _, .ref 18, .int (-1)] _ _ _ _
    refine pm_e_call (T2 := pm_mm67) pm_a0_455 rfl rfl rfl rfl rfl rfl rfl rfl rfl ?_
    show pm_E _ _ _ 0 [(0, .ref 18), (1, .int _), (2, .int _)] [] _ _ _ _
    refine pm_e_sim pm_a67_0 rfl ?_
    show pm_E _ _ _ 1 [(0, .ref 18), (1, .int _), (2, .int _)] [.ref 18] _ _ _ _
    refine pm_e_sim pm_a67_1 rfl ?_
    show pm_E _ _ _ 2 [(0, .ref 18), (1, .int _), (2, .int _)] [.int _, .ref 18] _ _ _ _
    refine pm_e_call (T2 := pm_mm61) pm_a67_2 rfl rfl rfl rfl rfl rfl rfl rfl rfl ?_
    show pm_E _ _ _ 0 [(0, .ref 18), (1, .int _)] [] _ _ _ _
    refine pm_e_sim pm_a61_0 rfl ?_
    show pm_E _ _ _ 1 [(0, .ref 18), (1, .int _)] [.int _] _ _ _ _
    refine pm_e_sim pm_a61_1 rfl ?_
    show pm_E _ _ _ 2 [(0, .ref 18), (1, .int _)] [.long _] _ _ _ _
    refine pm_e_sim pm_a61_2 rfl ?_
    show pm_E _ _ _ 3 [(0, .ref 18), (1, .int _)] [.long _, .long _] _ _ _ _
    refine pm_e_sim pm_a61_3 rfl ?_
    show pm_E _ _ _ 4 [(0, .ref 18), (1, .int _)] [.ref 18, .long _, .long _] _ _ _ _
    refine pm_e_rd pm_a61_4 rfl rfl rfl ?_
    show pm_E _ _ _ 7 [(0, .ref 18), (1, .int _)] [.int 0, .long _, .long _] _ _ _ _
    refine pm_e_sim pm_a61_7 rfl ?_
    refine pm_e_top (y := 1) (by decide +kernel) ?_
    show pm_E _ _ _ 8 [(0, .ref 18), (1, .int _)] [.int 1, .int 0, .long _, .long _] _ _ _ _
    refine pm_e_sim pm_a61_8 rfl ?_
    refine pm_e_top (y := (-1)) (by decide +kernel) ?_
    show pm_E _ _ _ 9 [(0, .ref 18), (1, .int _)] [.int (-1), .long _, .long _] _ _ _ _
    refine pm_e_sim pm_a61_9 rfl ?_
    show pm_E _ _ _ 10 [(0, .ref 18), (1, .int _)] [.long _, .long _, .long _] _ _ _ _
    refine pm_e_call (T2 := pm_mm50) pm_a61_10 rfl rfl rfl rfl rfl rfl rfl rfl rfl ?_
    show pm_E _ _ _ 0 [(0, .long _), (2, .long _), (4, .long _)] [] _ _ _ _
    refine pm_e_sim pm_a50_0 rfl ?_
    show pm_E _ _ _ 1 [(0, .long _), (2, .long _), (4, .long _)] [.long _] _ _ _ _
    refine pm_e_sim pm_a50_1 rfl ?_
    show pm_E _ _ _ 2 [(0, .long _), (2, .long _), (4, .long _)] [.long _, .long _] _ _ _ _
    refine pm_e_sim pm_a50_2 rfl ?_
    show pm_E _ _ _ 3 [(0, .long _), (2, .long _), (4, .long _)] [.int _] _ _ _ _
    refine pm_e_iff pm_a50_3 rfl (pm_zl_eq 0 (by decide +kernel) (by omega) (by decide +kernel)) ?_
    show pm_E _ _ _ 6 [(0, .long _), (2, .long _), (4, .long _)] [] _ _ _ _
    refine pm_e_sim pm_a50_6 rfl ?_
    show pm_E _ _ _ 7 [(0, .long _), (2, .long _), (4, .long _)] [.long _] _ _ _ _
    refine pm_e_sim pm_a50_7 rfl ?_
    show pm_E _ _ _ 9 [(0, .long _), (2, .long _), (4, .long _)] [.long _, .long _] _ _ _ _
    refine pm_e_sim pm_a50_9 rfl ?_
    show pm_E _ _ _ 10 [(0, .long _), (2, .long _), (4, .long _)] [.int _] _ _ _ _
    refine pm_e_ift pm_a50_10 rfl (pm_zl_gt (-1) (by decide +kernel) (by omega) (by decide +kernel)) ?_
    show pm_E _ _ _ 17 [(0, .long _), (2, .long _), (4, .long _)] [] _ _ _ _
    refine pm_e_sim pm_a50_17 rfl ?_
    refine pm_e_top (y := 0) (by decide +kernel) ?_
    show pm_E _ _ _ 18 [(0, .long _), (2, .long _), (4, .long _)] [.int 0] _ _ _ _
    refine pm_e_ret pm_a50_18 rfl rfl rfl rfl rfl rfl rfl rfl ?_
    show pm_E _ _ _ 13 [(0, .ref 18), (1, .int _)] [.int 0] _ _ _ _
    refine pm_e_ret pm_a61_13 rfl rfl rfl rfl rfl rfl rfl rfl ?_
    show pm_E _ _ _ 5 [(0, .ref 18), (1, .int _), (2, .int _)] [.int 0] _ _ _ _
    refine pm_e_ift pm_a67_5 rfl (by decide +kernel) ?_
    show pm_E _ _ _ 20 [(0, .ref 18), (1, .int _), (2, .int _)] [] _ _ _ _
    refine pm_e_sim pm_a67_20 rfl ?_
    refine pm_e_top (y := (-1)) (by decide +kernel) ?_
    show pm_E _ _ _ 21 [(0, .ref 18), (1, .int _), (2, .int _)] [.int (-1)] _ _ _ _
    refine pm_e_ret pm_a67_21 rfl rfl rfl rfl rfl rfl rfl rfl ?_
    show pm_E _ _ _ 458 [(3, .int 0), (2, .ref 18), (1, .ref 0), (0, .retAddr 0)] [.int (-1), .int (-1)] _ _ _ _
    refine pm_e_ict pm_a0_458 rfl (by decide +kernel) ?_
    show pm_E _ _ _ 779 [(3, .int 0), (2, .ref 18), (1, .ref 0), (0, .retAddr 0)] [] _ _ _ _
    refine pm_e_inc (y := 6) pm_a0_779 rfl (by decide +kernel) (by decide +kernel) rfl ?_
    show pm_E _ _ _ 782 [(3, .int 6), (2, .ref 18), (1, .ref 0), (0, .retAddr 0)] [] _ _ _ _
    refine pm_e_goto pm_a0_782 rfl ?_
    show pm_E _ _ _ 18 [(3, .int 6), (2, .ref 18), (1, .ref 0), (0, .retAddr 0)] [] _ _ _ _
    refine pm_e_sim pm_a0_18 rfl ?_
    show pm_E _ _ _ 19 [(3, .int 6), (2, .ref 18), (1, .ref 0), (0, .retAddr 0)] [.int 6] _ _ _ _
    refine pm_e_sim pm_a0_19 rfl ?_
    show pm_E _ _ _ 20 [(3, .int 6), (2, .ref 18), (1, .ref 0), (0, .retAddr 0)] [.retAddr 0, .int 6] _ _ _ _
    refine pm_e_rd pm_a0_20 rfl rfl rfl ?_
    dsimp only
    refine pm_e_top (y := 6) (by decide +kernel) ?_
    show pm_E _ _ _ 21 [(3, .int 6), (2, .ref 18), (1, .ref 0), (0, .retAddr 0)] [.int 6, .int 6] _ _ _ _
    refine pm_e_sim pm_a0_21 rfl ?_
    refine pm_e_top (y := 6) (by decide +kernel) ?_
    show pm_E _ _ _ 23 [(3, .int 6), (2, .ref 18), (1, .ref 0), (0, .retAddr 0)] [.int 6, .int 6, .int 6] _ _ _ _
    refine pm_e_sim pm_a0_23 rfl ?_
    refine pm_e_top (y := 0) (by decide +kernel) ?_
    show pm_E _ _ _ 24 [(3, .int 6), (2, .ref 18), (1, .ref 0), (0, .retAddr 0)] [.int 0, .int 6] _ _ _ _
    refine pm_e_ict pm_a0_24 rfl (by decide +kernel) ?_
    show pm_E _ _ _ 785 [(3, .int 6), (2, .ref 18), (1, .ref 0), (0, .retAddr 0)] [] _ _ _ _
    refine pm_e_sim pm_a0_785 rfl ?_
    refine pm_e_top (y := 1) (by decide +kernel) ?_
    show pm_E _ _ _ 786 [(3, .int 6), (2, .ref 18), (1, .ref 0), (0, .retAddr 0)] [.int 1] _ _ _ _
    refine pm_e_ret pm_a0_786 rfl rfl rfl rfl rfl rfl rfl rfl ?_
    exact hQ _ _ _ (by decide +kernel) (by decide +kernel)
  · refine pm_e_tsi (t := 430) pm_a0_33 rfl (by decide +kernel) ?_
    show pm_E _ _ _ 430 [(3, .int 0), (2, .ref 18), (1, .ref 0), (0, .retAddr 0)] [] _ _ _ _
    refine pm_e_sim pm_a0_430 rfl ?_
    show pm_E _ _ _ 431 [(3, .int 0), (2, .ref 18), (1, .ref 0), (0, .retAddr 0)] [.ref 0] _ _ _ _
    refine pm_e_sim pm_a0_431 rfl ?_
    show pm_E _ _ _ 432 [(3, .int 0), (2, .ref 18), (1, .ref 0), (0, .retAddr 0)] [.retAddr 0, .ref 0] _ _ _ _
    refine pm_e_sim pm_a0_432 rfl ?_
    show pm_E _ _ _ 433 [(3, .int 0), (2, .ref 18), (1, .ref 0), (0, .retAddr 0)] [.int 0, .retAddr 0, .ref 0] _ _ _ _
    refine pm_e_sim pm_a0_433 rfl ?_
    refine pm_e_top (y := 1) (by decide +kernel) ?_
    show pm_E _ _ _ 434 [(3, .int 0), (2, .ref 18), (1, .ref 0), (0, .retAddr 0)] [.int 1, .int 0, .retAddr 0, .ref 0] _ _ _ _
    refine pm_e_sim pm_a0_434 rfl ?_
    refine pm_e_top (y := 1) (by decide +kernel) ?_
    show pm_E _ _ _ 435 [(3, .int 0), (2, .ref 18), (1, .ref 0), (0, .retAddr 0)] [.int 1, .retAddr 0, .ref 0] _ _ _ _
    refine pm_e_sld (j := 1) pm_a0_435 (by decide +kernel) ?_
    show pm_E _ _ _ 436 [(3, .int 0), (2, .ref 18), (1, .ref 0), (0, .retAddr 0)] [.int _, .ref 0] _ _ _ _
    refine pm_e_sim pm_a0_436 rfl ?_
    show pm_E _ _ _ 437 [(3, .int 0), (2, .ref 18), (1, .ref 0), (0, .retAddr 0)] [.retAddr 0, .int _, .ref 0] _ _ _ _
    refine pm_e_sim pm_a0_437 rfl ?_
    show pm_E _ _ _ 438 [(3, .int 0), (2, .ref 18), (1, .ref 0), (0, .retAddr 0)] [.int 0, .retAddr 0, .int _, .ref 0] _ _ _ _
    refine pm_e_sim pm_a0_438 rfl ?_
    refine pm_e_top (y := 2) (by decide +kernel) ?_
    show pm_E _ _ _ 439 [(3, .int 0), (2, .ref 18), (1, .ref 0), (0, .retAddr 0)] [.int 2, .int 0, .retAddr 0, .int _, .ref 0] _ _ _ _
    refine pm_e_sim pm_a0_439 rfl ?_
    refine pm_e_top (y := 2) (by decide +kernel) ?_
    show pm_E _ _ _ 440 [(3, .int 0), (2, .ref 18), (1, .ref 0), (0, .retAddr 0)] [.int 2, .retAddr 0, .int _, .ref 0] _ _ _ _
    refine pm_e_sld (j := 2) pm_a0_440 (by decide +kernel) ?_
    show pm_E _ _ _ 441 [(3, .int 0), (2, .ref 18), (1, .ref 0), (0, .retAddr 0)] [.int _, .int _, .ref 0] _ _ _ _
    refine pm_e_call (T2 := pm_mm32) pm_a0_441 rfl rfl rfl rfl rfl rfl rfl rfl rfl ?_
    show pm_E _ _ _ 0 [(0, .ref 0), (1, .int _), (2, .int _)] [] _ _ _ _
    refine pm_e_sim pm_a32_0 rfl ?_
    show pm_E _ _ _ 1 [(0, .ref 0), (1, .int _), (2, .int _)] [.ref 0] _ _ _ _
    refine pm_e_sim pm_a32_1 rfl ?_
    show pm_E _ _ _ 2 [(0, .ref 0), (1, .int _), (2, .int _)] [.int _, .ref 0] _ _ _ _
    refine pm_e_call (T2 := pm_mm26) pm_a32_2 rfl rfl rfl rfl rfl rfl rfl rfl rfl ?_
    show pm_E _ _ _ 0 [(0, .ref 0), (1, .int _)] [] _ _ _ _
    refine pm_e_sim pm_a26_0 rfl ?_
    show pm_E _ _ _ 1 [(0, .ref 0), (1, .int _)] [.int _] _ _ _ _
    refine pm_e_iff pm_a26_1 rfl (pm_z_lt_f 0 (by decide +kernel) (by omega)) ?_
    show pm_E _ _ _ 4 [(0, .ref 0), (1, .int _)] [] _ _ _ _
    refine pm_e_sim pm_a26_4 rfl ?_
    show pm_E _ _ _ 5 [(0, .ref 0), (1, .int _)] [.int _] _ _ _ _
    refine pm_e_sim pm_a26_5 rfl ?_
    show pm_E _ _ _ 6 [(0, .ref 0), (1, .int _)] [.ref 0, .int _] _ _ _ _
    refine pm_e_rd pm_a26_6 rfl rfl rfl ?_
    show pm_E _ _ _ 9 [(0, .ref 0), (1, .int _)] [.int 0, .int _] _ _ _ _
    refine pm_e_ict pm_a26_9 rfl (pm_z_ge_t 0 (by decide +kernel) (by omega)) ?_
    show pm_E _ _ _ 30 [(0, .ref 0), (1, .int _)] [] _ _ _ _
    refine pm_e_sim pm_a26_30 rfl ?_
    show pm_E _ _ _ 31 [(0, .ref 0), (1, .int _)] [.null] _ _ _ _
    refine pm_e_ret pm_a26_31 rfl rfl rfl rfl rfl rfl rfl rfl ?_
    show pm_E _ _ _ 5 [(0, .ref 0), (1, .int _), (2, .int _)] [.null] _ _ _ _
    refine pm_e_sim pm_a32_5 rfl ?_
    show pm_E _ _ _ 6 [(3, .null), (0, .ref 0), (1, .int _), (2, .int _)] [] _ _ _ _
    refine pm_e_sim pm_a32_6 rfl ?_
    show pm_E _ _ _ 7 [(3, .null), (0, .ref 0), (1, .int _), (2, .int _)] [.null] _ _ _ _
    refine pm_e_jmp (pc2 := 17) pm_a32_7 rfl rfl ?_
    show pm_E _ _ _ 17 [(3, .null), (0, .ref 0), (1, .int _), (2, .int _)] [] _ _ _ _
    refine pm_e_sim pm_a32_17 rfl ?_
    refine pm_e_top (y := (-1)) (by decide +kernel) ?_
    show pm_E _ _ _ 18 [(3, .null), (0, .ref 0), (1, .int _), (2, .int _)] [.int (-1)] _ _ _ _
    refine pm_e_goto pm_a32_18 rfl ?_
    show pm_E _ _ _ 30 [(3, .null), (0, .ref 0), (1, .int _), (2, .int _)] [.int (-1)] _ _ _ _
    refine pm_e_ret pm_a32_30 rfl rfl rfl rfl rfl rfl rfl rfl ?_
    show pm_E _ _ _ 444 [(3, .int 0), (2, .ref 18), (1, .ref 0), (0, .retAddr 0)] [.int (-1)] _ _ _ _
    refine pm_e_sim pm_a0_444 rfl ?_
    show pm_E _ _ _ 445 [(3, .int 0), (2, .ref 18), (1, .ref 0), (0, .retAddr 0)] [.ref 18, .int (-1)] _ _ _ _
    refine pm_e_sim pm_a0_445 rfl ?_
    show pm_E _ _ _ 446 [(3, .int 0), (2, .ref 18), (1, .ref 0), (0, .retAddr 0)] [.retAddr 0, .ref 18, .int (-1)] _ _ _ _
    refine pm_e_sim pm_a0_446 rfl ?_
    show pm_E _ _ _ 447 [(3, .int 0), (2, .ref 18), (1, .ref 0), (0, .retAddr 0)] [.int 0, .retAddr 0, .ref 18, .int (-1)] _ _ _ _
    refine pm_e_sim pm_a0_447 rfl ?_
    refine pm_e_top (y := 1) (by decide +kernel) ?_
    show pm_E _ _ _ 448 [(3, .int 0), (2, .ref 18), (1, .ref 0), (0, .retAddr 0)] [.int 1, .int 0, .retAddr 0, .ref 18, .int (-1)] _ _ _ _
    refine pm_e_sim pm_a0_448 rfl ?_
    refine pm_e_top (y := 1) (by decide +kernel) ?_
    show pm_E _ _ _ 449 [(3, .int 0), (2, .ref 18), (1, .ref 0), (0, .retAddr 0)] [.int 1, .retAddr 0, .ref 18, .int (-1)] _ _ _ _
    refine pm_e_sld (j := 1) pm_a0_449 (by decide +kernel) ?_
    show pm_E _ _ _ 450 [(3, .int 0), (2, .ref 18), (1, .ref 0), (0, .retAddr 0)] [.int _, .ref 18, .int (-1)] _ _ _ _
    refine pm_e_sim pm_a0_450 rfl ?_
    show pm_E _ _ _ 451 [(3, .int 0), (2, .ref 18), (1, .ref 0), (0, .retAddr 0)] [.retAddr 0, .int _, .ref 18, .int (-1)] _ _ _ _
    refine pm_e_sim pm_a0_451 rfl ?_
    show pm_E _ _ _ 452 [(3, .int 0), (2, .ref 18), (1, .ref 0), (0, .retAddr 0)] [.int 0, .retAddr 0, .int _, .ref 18, .int (-1)] _ _ _ _
    refine pm_e_sim pm_a0_452 rfl ?_
    refine pm_e_top (y := 2) (by decide +kernel) ?_
    show pm_E _ _ _ 453 [(3, .int 0), (2, .ref 18), (1, .ref 0), (0, .retAddr 0)] [.int 2, .int 0, .retAddr 0, .int _, .ref 18, .int (-1)] _ _ _ _
    refine pm_e_sim pm_a0_453 rfl ?_
    refine pm_e_top (y := 2) (by decide +kernel) ?_
    show pm_E _ _ _ 454 [(3, .int 0), (2, .ref 18), (1, .ref 0), (0, .retAddr 0)] [.int 2, .retAddr 0, .int _, .ref 18, .int (-1)] _ _ _ _
    refine pm_e_sld (j := 2) pm_a0_454 (by decide +kernel) ?_
    show pm_E _ _ _ 455 [(3, .int 0), (2, .ref 18), (1, .ref 0), (0, .retAddr 0)] [.int _, .int _, .ref 18, .int (-1)] _ _ _ _
    refine pm_e_call (T2 := pm_mm67) pm_a0_455 rfl rfl rfl rfl rfl rfl rfl rfl rfl ?_
    show pm_E _ _ _ 0 [(0, .ref 18), (1, .int _), (2, .int _)] [] _ _ _ _
    refine pm_e_sim pm_a67_0 rfl ?_
    show pm_E _ _ _ 1 [(0, .ref 18), (1, .int _), (2, .int _)] [.ref 18] _ _ _ _
    refine pm_e_sim pm_a67_1 rfl ?_
    show pm_E _ _ _ 2 [(0, .ref 18), (1, .int _), (2, .int _)] [.int _, .ref 18] _ _ _ _
    refine pm_e_call (T2 := pm_mm61) pm_a67_2 rfl rfl rfl rfl rfl rfl rfl rfl rfl ?_
    show pm_E _ _ _ 0 [(0, .ref 18), (1, .int _)] [] _ _ _ _
    refine pm_e_sim pm_a61_0 rfl ?_
    show pm_E _ _ _ 1 [(0, .ref 18), (1, .int _)] [.int _] _ _ _ _
    refine pm_e_sim pm_a61_1 rfl ?_
    show pm_E _ _ _ 2 [(0, .ref 18), (1, .int _)] [.long _] _ _ _ _
    refine pm_e_sim pm_a61_2 rfl ?_
    show pm_E _ _ _ 3 [(0, .ref 18), (1, .int _)] [.long _, .long _] _ _ _ _
    refine pm_e_sim pm_a61_3 rfl ?_
    show pm_E _ _ _ 4 [(0, .ref 18), (1, .int _)] [.ref 18, .long _, .long _] _ _ _ _
    refine pm_e_rd pm_a61_4 rfl rfl rfl ?_
    show pm_E _ _ _ 7 [(0, .ref 18), (1, .int _)] [.int 0, .long _, .long _] _ _ _ _
    refine pm_e_sim pm_a61_7 rfl ?_
    refine pm_e_top (y := 1) (by decide +kernel) ?_
    show pm_E _ _ _ 8 [(0, .ref 18), (1, .int _)] [.int 1, .int 0, .long _, .long _] _ _ _ _
    refine pm_e_sim pm_a61_8 rfl ?_
    refine pm_e_top (y := (-1)) (by decide +kernel) ?_
    show pm_E _ _ _ 9 [(0, .ref 18), (1, .int _)] [.int (-1), .long _, .long _] _ _ _ _
    refine pm_e_sim pm_a61_9 rfl ?_
    show pm_E _ _ _ 10 [(0, .ref 18), (1, .int _)] [.long _, .long _, .long _] _ _ _ _
    refine pm_e_call (T2 := pm_mm50) pm_a61_10 rfl rfl rfl rfl rfl rfl rfl rfl rfl ?_
    show pm_E _ _ _ 0 [(0, .long _), (2, .long _), (4, .long _)] [] _ _ _ _
    refine pm_e_sim pm_a50_0 rfl ?_
    show pm_E _ _ _ 1 [(0, .long _), (2, .long _), (4, .long _)] [.long _] _ _ _ _
    refine pm_e_sim pm_a50_1 rfl ?_
    show pm_E _ _ _ 2 [(0, .long _), (2, .long _), (4, .long _)] [.long _, .long _] _ _ _ _
    refine pm_e_sim pm_a50_2 rfl ?_
    show pm_E _ _ _ 3 [(0, .long _), (2, .long _), (4, .long _)] [.int _] _ _ _ _
    refine pm_e_iff pm_a50_3 rfl (pm_zl_gt 0 (by decide +kernel) (by omega) (by decide +kernel)) ?_
    show pm_E _ _ _ 6 [(0, .long _), (2, .long _), (4, .long _)] [] _ _ _ _
    refine pm_e_sim pm_a50_6 rfl ?_
    show pm_E _ _ _ 7 [(0, .long _), (2, .long _), (4, .long _)] [.long _] _ _ _ _
    refine pm_e_sim pm_a50_7 rfl ?_
    show pm_E _ _ _ 9 [(0, .long _), (2, .long _), (4, .long _)] [.long _, .long _] _ _ _ _
    refine pm_e_sim pm_a50_9 rfl ?_
    show pm_E _ _ _ 10 [(0, .long _), (2, .long _), (4, .long _)] [.int _] _ _ _ _
    refine pm_e_ift pm_a50_10 rfl (pm_zl_gt (-1) (by decide +kernel) (by omega) (by decide +kernel)) ?_
    show pm_E _ _ _ 17 [(0, .long _), (2, .long _), (4, .long _)] [] _ _ _ _
    refine pm_e_sim pm_a50_17 rfl ?_
    refine pm_e_top (y := 0) (by decide +kernel) ?_
    show pm_E _ _ _ 18 [(0, .long _), (2, .long _), (4, .long _)] [.int 0] _ _ _ _
    refine pm_e_ret pm_a50_18 rfl rfl rfl rfl rfl rfl rfl rfl ?_
    show pm_E _ _ _ 13 [(0, .ref 18), (1, .int _)] [.int 0] _ _ _ _
    refine pm_e_ret pm_a61_13 rfl rfl rfl rfl rfl rfl rfl rfl ?_
    show pm_E _ _ _ 5 [(0, .ref 18), (1, .int _), (2, .int _)] [.int 0] _ _ _ _
    refine pm_e_ift pm_a67_5 rfl (by decide +kernel) ?_
    show pm_E _ _ _ 20 [(0, .ref 18), (1, .int _), (2, .int _)] [] _ _ _ _
    refine pm_e_sim pm_a67_20 rfl ?_
    refine pm_e_top (y := (-1)) (by decide +kernel) ?_
    show pm_E _ _ _ 21 [(0, .ref 18), (1, .int _), (2, .int _)] [.int (-1)] _ _ _ _
    refine pm_e_ret pm_a67_21 rfl rfl rfl rfl rfl rfl rfl rfl ?_
    show pm_E _ _ _ 458 [(3, .int 0), (2, .ref 18), (1, .ref 0), (0, .retAddr 0)] [.int (-1), .int (-1)] _ _ _ _
    refine pm_e_ict pm_a0_458 rfl (by decide +kernel) ?_
    show pm_E _ _ _ 779 [(3, .int 0), (2, .ref 18), (1, .ref 0), (0, .retAddr 0)] [] _ _ _ _
    refine pm_e_inc (y := 6) pm_a0_779 rfl (by decide +kernel) (by decide +kernel) rfl ?_
    show pm_E _ _ _ 782 [(3, .int 6), (2, .ref 18), (1, .ref 0), (0, .retAddr 0)] [] _ _ _ _
    refine pm_e_goto pm_a0_782 rfl ?_
    show pm_E _ _ _ 18 [(3, .int 6), (2, .ref 18), (1, .ref 0), (0, .retAddr 0)] [] _ _ _ _
    refine pm_e_sim pm_a0_18 rfl ?_
    show pm_E _ _ _ 19 [(3, .int 6), (2, .ref 18), (1, .ref 0), (0, .retAddr 0)] [.int 6] _ _ _ _
    refine pm_e_sim pm_a0_19 rfl ?_
    show pm_E _ _ _ 20 [(3, .int 6), (2, .ref 18), (1, .ref 0), (0, .retAddr 0)] [.retAddr 0, .int 6] _ _ _ _
    refine pm_e_rd pm_a0_20 rfl rfl rfl ?_
    dsimp only
    refine pm_e_top (y := 6) (by decide +kernel) ?_
    show pm_E _ _ _ 21 [(3, .int 6), (2, .ref 18), (1, .ref 0), (0, .retAddr 0)] [.int 6, .int 6] _ _ _ _
    refine pm_e_sim pm_a0_21 rfl ?_
    refine pm_e_top (y := 6) (by decide +kernel) ?_
    show pm_E _ _ _ 23 [(3, .int 6), (2, .ref 18), (1, .ref 0), (0, .retAddr 0)] [.int 6, .int 6, .int 6] _ _ _ _
    refine pm_e_sim pm_a0_23 rfl ?_
    refine pm_e_top (y := 0) (by decide +kernel) ?_
    show pm_E _ _ _ 24 [(3, .int 6), (2, .ref 18), (1, .ref 0), (0, .retAddr 0)] [.int 0, .int 6] _ _ _ _
    refine pm_e_ict pm_a0_24 rfl (by decide +kernel) ?_
    show pm_E _ _ _ 785 [(3, .int 6), (2, .ref 18), (1, .ref 0), (0, .retAddr 0)] [] _ _ _ _
    refine pm_e_sim pm_a0_785 rfl ?_
    refine pm_e_top (y := 1) (by decide +kernel) ?_
    show pm_E _ _ _ 786 [(3, .int 6), (2, .ref 18), (1, .ref 0), (0, .retAddr 0)] [.int 1] _ _ _ _
    refine pm_e_ret pm_a0_786 rfl rfl rfl rfl rfl rfl rfl rfl ?_
    exact hQ _ _ _ (by decide +kernel) (by decide +kernel)
set_option maxHeartbeats 40000000 in
set_option maxRecDepth 200000 in
theorem pm_op11 (xs : Nat → Int32) {Q : Option Value → List va_E → Nat → Nat → Prop} (hQ : ∀ ph c n, c ≤ 600000 → n ≤ 7302250 → Q (some (.int 1)) ph c n) : pm_E (some (6, xs)) 11 pm_mm0 33 pm_L0 [.int (nI 11)] pm_H0 50 194358 Q := by
  refine pm_e_top (y := 11) (by decide +kernel) ?_
  rcases (show (xs 1).toInt < 0 ∨ (xs 1).toInt = 0 ∨ 0 < (xs 1).toInt by omega) with h1 | h1 | h1
  · refine pm_e_tsi (t := 463) pm_a0_33 rfl (by decide +kernel) ?_
    show pm_E _ _ _ 463 [(3, .int 0), (2, .ref 18), (1, .ref 0), (0, .retAddr 0)] [] _ _ _ _
    refine pm_e_sim pm_a0_463 rfl ?_
    show pm_E _ _ _ 464 [(3, .int 0), (2, .ref 18), (1, .ref 0), (0, .retAddr 0)] [.ref 0] _ _ _ _
    refine pm_e_sim pm_a0_464 rfl ?_
    show pm_E _ _ _ 465 [(3, .int 0), (2, .ref 18), (1, .ref 0), (0, .retAddr 0)] [.retAddr 0, .ref 0] _ _ _ _
    refine pm_e_sim pm_a0_465 rfl ?_
    show pm_E _ _ _ 466 [(3, .int 0), (2, .ref 18), (1, .ref 0), (0, .retAddr 0)] [.int 0, .retAddr 0, .ref 0] _ _ _ _
    refine pm_e_sim pm_a0_466 rfl ?_
    refine pm_e_top (y := 1) (by decide +kernel) ?_
    show pm_E _ _ _ 467 [(3, .int 0), (2, .ref 18), (1, .ref 0), (0, .retAddr 0)] [.int 1, .int 0, .retAddr 0, .ref 0] _ _ _ _
    refine pm_e_sim pm_a0_467 rfl ?_
    refine pm_e_top (y := 1) (by decide +kernel) ?_
    show pm_E _ _ _ 468 [(3, .int 0), (2, .ref 18), (1, .ref 0), (0, .retAddr 0)] [.int 1, .retAddr 0, .ref 0] _ _ _ _
    refine pm_e_sld (j := 1) pm_a0_468 (by decide +kernel) ?_
    show pm_E _ _ _ 469 [(3, .int 0), (2, .ref 18), (1, .ref 0), (0, .retAddr 0)] [.int _, .ref 0] _ _ _ _
    refine pm_e_sim pm_a0_469 rfl ?_
    show pm_E _ _ _ 470 [(3, .int 0), (2, .ref 18), (1, .ref 0), (0, .retAddr 0)] [.retAddr 0, .int _, .ref 0] _ _ _ _
    refine pm_e_sim pm_a0_470 rfl ?_
    show pm_E _ _ _ 471 [(3, .int 0), (2, .ref 18), (1, .ref 0), (0, .retAddr 0)] [.int 0, .retAddr 0, .int _, .ref 0] _ _ _ _
    refine pm_e_sim pm_a0_471 rfl ?_
    refine pm_e_top (y := 2) (by decide +kernel) ?_
    show pm_E _ _ _ 472 [(3, .int 0), (2, .ref 18), (1, .ref 0), (0, .retAddr 0)] [.int 2, .int 0, .retAddr 0, .int _, .ref 0] _ _ _ _
    refine pm_e_sim pm_a0_472 rfl ?_
    refine pm_e_top (y := 2) (by decide +kernel) ?_
    show pm_E _ _ _ 473 [(3, .int 0), (2, .ref 18), (1, .ref 0), (0, .retAddr 0)] [.int 2, .retAddr 0, .int _, .ref 0] _ _ _ _
    refine pm_e_sld (j := 2) pm_a0_473 (by decide +kernel) ?_
    show pm_E _ _ _ 474 [(3, .int 0), (2, .ref 18), (1, .ref 0), (0, .retAddr 0)] [.int _, .int _, .ref 0] _ _ _ _
    refine pm_e_sim pm_a0_474 rfl ?_
    show pm_E _ _ _ 475 [(3, .int 0), (2, .ref 18), (1, .ref 0), (0, .retAddr 0)] [.retAddr 0, .int _, .int _, .ref 0] _ _ _ _
    refine pm_e_sim pm_a0_475 rfl ?_
    show pm_E _ _ _ 476 [(3, .int 0), (2, .ref 18), (1, .ref 0), (0, .retAddr 0)] [.int 0, .retAddr 0, .int _, .int _, .ref 0] _ _ _ _
    refine pm_e_sim pm_a0_476 rfl ?_
    refine pm_e_top (y := 3) (by decide +kernel) ?_
    show pm_E _ _ _ 477 [(3, .int 0), (2, .ref 18), (1, .ref 0), (0, .retAddr 0)] [.int 3, .int 0, .retAddr 0, .int _, .int _, .ref 0] _ _ _ _
    refine pm_e_sim pm_a0_477 rfl ?_
    refine pm_e_top (y := 3) (by decide +kernel) ?_
    show pm_E _ _ _ 478 [(3, .int 0), (2, .ref 18), (1, .ref 0), (0, .retAddr 0)] [.int 3, .retAddr 0, .int _, .int _, .ref 0] _ _ _ _
    refine pm_e_sld (j := 3) pm_a0_478 (by decide +kernel) ?_
    show pm_E _ _ _ 479 [(3, .int 0), (2, .ref 18), (1, .ref 0), (0, .retAddr 0)] [.int _, .int _, .int _, .ref 0] _ _ _ _
    refine pm_e_call (T2 := pm_mm33) pm_a0_479 rfl rfl rfl rfl rfl rfl rfl rfl rfl ?_
    show pm_E _ _ _ 0 [(0, .ref 0), (1, .int _), (2, .int _), (3, .int _)] [] _ _ _ _
    refine pm_e_sim pm_a33_0 rfl ?_
    show pm_E _ _ _ 1 [(0, .ref 0), (1, .int _), (2, .int _), (3, .int _)] [.ref 0] _ _ _ _
    refine pm_e_sim pm_a33_1 rfl ?_
    show pm_E _ _ _ 2 [(0, .ref 0), (1, .int _), (2, .int _), (3, .int _)] [.int _, .ref 0] _ _ _ _
    refine pm_e_call (T2 := pm_mm26) pm_a33_2 rfl rfl rfl rfl rfl rfl rfl rfl rfl ?_
    show pm_E _ _ _ 0 [(0, .ref 0), (1, .int _)] [] _ _ _ _
    refine pm_e_sim pm_a26_0 rfl ?_
    show pm_E _ _ _ 1 [(0, .ref 0), (1, .int _)] [.int _] _ _ _ _
    refine pm_e_ift pm_a26_1 rfl (pm_z_lt_t 0 (by decide +kernel) (by omega)) ?_
    show pm_E _ _ _ 30 [(0, .ref 0), (1, .int _)] [] _ _ _ _
    refine pm_e_sim pm_a26_30 rfl ?_
    show pm_E _ _ _ 31 [(0, .ref 0), (1, .int _)] [.null] _ _ _ _
    refine pm_e_ret pm_a26_31 rfl rfl rfl rfl rfl rfl rfl rfl ?_
    show pm_E _ _ _ 5 [(0, .ref 0), (1, .int _), (2, .int _), (3, .int _)] [.null] _ _ _ _
    refine pm_e_sim pm_a33_5 rfl ?_
    show pm_E _ _ _ 7 [(4, .null), (0, .ref 0), (1, .int _), (2, .int _), (3, .int _)] [] _ _ _ _
    refine pm_e_sim pm_a33_7 rfl ?_
    show pm_E _ _ _ 9 [(4, .null), (0, .ref 0), (1, .int _), (2, .int _), (3, .int _)] [.null] _ _ _ _
    refine pm_e_jmp (pc2 := 26) pm_a33_9 rfl rfl ?_
    show pm_E _ _ _ 26 [(4, .null), (0, .ref 0), (1, .int _), (2, .int _), (3, .int _)] [] _ _ _ _
    refine pm_e_sim pm_a33_26 rfl ?_
    refine pm_e_top (y := (-1)) (by decide +kernel) ?_
    show pm_E _ _ _ 27 [(4, .null), (0, .ref 0), (1, .int _), (2, .int _), (3, .int _)] [.int (-1)] _ _ _ _
    refine pm_e_ret pm_a33_27 rfl rfl rfl rfl rfl rfl rfl rfl ?_
    show pm_E _ _ _ 482 [(3, .int 0), (2, .ref 18), (1, .ref 0), (0, .retAddr 0)] [.int (-1)] _ _ _ _
    refine pm_e_sim pm_a0_482 rfl ?_
    show pm_E _ _ _ 483 [(3, .int 0), (2, .ref 18), (1, .ref 0), (0, .retAddr 0)] [.ref 18, .int (-1)] _ _ _ _
    refine pm_e_sim pm_a0_483 rfl ?_
    show pm_E _ _ _ 484 [(3, .int 0), (2, .ref 18), (1, .ref 0), (0, .retAddr 0)] [.retAddr 0, .ref 18, .int (-1)] _ _ _ _
    refine pm_e_sim pm_a0_484 rfl ?_
    show pm_E _ _ _ 485 [(3, .int 0), (2, .ref 18), (1, .ref 0), (0, .retAddr 0)] [.int 0, .retAddr 0, .ref 18, .int (-1)] _ _ _ _
    refine pm_e_sim pm_a0_485 rfl ?_
    refine pm_e_top (y := 1) (by decide +kernel) ?_
    show pm_E _ _ _ 486 [(3, .int 0), (2, .ref 18), (1, .ref 0), (0, .retAddr 0)] [.int 1, .int 0, .retAddr 0, .ref 18, .int (-1)] _ _ _ _
    refine pm_e_sim pm_a0_486 rfl ?_
    refine pm_e_top (y := 1) (by decide +kernel) ?_
    show pm_E _ _ _ 487 [(3, .int 0), (2, .ref 18), (1, .ref 0), (0, .retAddr 0)] [.int 1, .retAddr 0, .ref 18, .int (-1)] _ _ _ _
    refine pm_e_sld (j := 1) pm_a0_487 (by decide +kernel) ?_
    show pm_E _ _ _ 488 [(3, .int 0), (2, .ref 18), (1, .ref 0), (0, .retAddr 0)] [.int _, .ref 18, .int (-1)] _ _ _ _
    refine pm_e_sim pm_a0_488 rfl ?_
    show pm_E _ _ _ 489 [(3, .int 0), (2, .ref 18), (1, .ref 0), (0, .retAddr 0)] [.retAddr 0, .int _, .ref 18, .int (-1)] _ _ _ _
    refine pm_e_sim pm_a0_489 rfl ?_
    show pm_E _ _ _ 490 [(3, .int 0), (2, .ref 18), (1, .ref 0), (0, .retAddr 0)] [.int 0, .retAddr 0, .int _, .ref 18, .int (-1)] _ _ _ _
    refine pm_e_sim pm_a0_490 rfl ?_
    refine pm_e_top (y := 2) (by decide +kernel) ?_
    show pm_E _ _ _ 491 [(3, .int 0), (2, .ref 18), (1, .ref 0), (0, .retAddr 0)] [.int 2, .int 0, .retAddr 0, .int _, .ref 18, .int (-1)] _ _ _ _
    refine pm_e_sim pm_a0_491 rfl ?_
    refine pm_e_top (y := 2) (by decide +kernel) ?_
    show pm_E _ _ _ 492 [(3, .int 0), (2, .ref 18), (1, .ref 0), (0, .retAddr 0)] [.int 2, .retAddr 0, .int _, .ref 18, .int (-1)] _ _ _ _
    refine pm_e_sld (j := 2) pm_a0_492 (by decide +kernel) ?_
    show pm_E _ _ _ 493 [(3, .int 0), (2, .ref 18), (1, .ref 0), (0, .retAddr 0)] [.int _, .int _, .ref 18, .int (-1)] _ _ _ _
    refine pm_e_sim pm_a0_493 rfl ?_
    show pm_E _ _ _ 494 [(3, .int 0), (2, .ref 18), (1, .ref 0), (0, .retAddr 0)] [.retAddr 0, .int _, .int _, .ref 18, .int (-1)] _ _ _ _
    refine pm_e_sim pm_a0_494 rfl ?_
    show pm_E _ _ _ 495 [(3, .int 0), (2, .ref 18), (1, .ref 0), (0, .retAddr 0)] [.int 0, .retAddr 0, .int _, .int _, .ref 18, .int (-1)] _ _ _ _
    refine pm_e_sim pm_a0_495 rfl ?_
    refine pm_e_top (y := 3) (by decide +kernel) ?_
    show pm_E _ _ _ 496 [(3, .int 0), (2, .ref 18), (1, .ref 0), (0, .retAddr 0)] [.int 3, .int 0, .retAddr 0, .int _, .int _, .ref 18, .int (-1)] _ _ _ _
    refine pm_e_sim pm_a0_496 rfl ?_
    refine pm_e_top (y := 3) (by decide +kernel) ?_
    show pm_E _ _ _ 497 [(3, .int 0), (2, .ref 18), (1, .ref 0), (0, .retAddr 0)] [.int 3, .retAddr 0, .int _, .int _, .ref 18, .int (-1)] _ _ _ _
    refine pm_e_sld (j := 3) pm_a0_497 (by decide +kernel) ?_
    show pm_E _ _ _ 498 [(3, .int 0), (2, .ref 18), (1, .ref 0), (0, .retAddr 0)] [.int _, .int _, .int _, .ref 18, .int (-1)] _ _ _ _
    refine pm_e_call (T2 := pm_mm68) pm_a0_498 rfl rfl rfl rfl rfl rfl rfl rfl rfl ?_
    show pm_E _ _ _ 0 [(0, .ref 18), (1, .int _), (2, .int _), (3, .int _)] [] _ _ _ _
    refine pm_e_sim pm_a68_0 rfl ?_
    show pm_E _ _ _ 1 [(0, .ref 18), (1, .int _), (2, .int _), (3, .int _)] [.ref 18] _ _ _ _
    refine pm_e_sim pm_a68_1 rfl ?_
    show pm_E _ _ _ 2 [(0, .ref 18), (1, .int _), (2, .int _), (3, .int _)] [.int _, .ref 18] _ _ _ _
    refine pm_e_call (T2 := pm_mm61) pm_a68_2 rfl rfl rfl rfl rfl rfl rfl rfl rfl ?_
    show pm_E _ _ _ 0 [(0, .ref 18), (1, .int _)] [] _ _ _ _
    refine pm_e_sim pm_a61_0 rfl ?_
    show pm_E _ _ _ 1 [(0, .ref 18), (1, .int _)] [.int _] _ _ _ _
    refine pm_e_sim pm_a61_1 rfl ?_
    show pm_E _ _ _ 2 [(0, .ref 18), (1, .int _)] [.long _] _ _ _ _
    refine pm_e_sim pm_a61_2 rfl ?_
    show pm_E _ _ _ 3 [(0, .ref 18), (1, .int _)] [.long _, .long _] _ _ _ _
    refine pm_e_sim pm_a61_3 rfl ?_
    show pm_E _ _ _ 4 [(0, .ref 18), (1, .int _)] [.ref 18, .long _, .long _] _ _ _ _
    refine pm_e_rd pm_a61_4 rfl rfl rfl ?_
    show pm_E _ _ _ 7 [(0, .ref 18), (1, .int _)] [.int 0, .long _, .long _] _ _ _ _
    refine pm_e_sim pm_a61_7 rfl ?_
    refine pm_e_top (y := 1) (by decide +kernel) ?_
    show pm_E _ _ _ 8 [(0, .ref 18), (1, .int _)] [.int 1, .int 0, .long _, .long _] _ _ _ _
    refine pm_e_sim pm_a61_8 rfl ?_
    refine pm_e_top (y := (-1)) (by decide +kernel) ?_
    show pm_E _ _ _ 9 [(0, .ref 18), (1, .int _)] [.int (-1), .long _, .long _] _ _ _ _
    refine pm_e_sim pm_a61_9 rfl ?_
    show pm_E _ _ _ 10 [(0, .ref 18), (1, .int _)] [.long _, .long _, .long _] _ _ _ _
    refine pm_e_call (T2 := pm_mm50) pm_a61_10 rfl rfl rfl rfl rfl rfl rfl rfl rfl ?_
    show pm_E _ _ _ 0 [(0, .long _), (2, .long _), (4, .long _)] [] _ _ _ _
    refine pm_e_sim pm_a50_0 rfl ?_
    show pm_E _ _ _ 1 [(0, .long _), (2, .long _), (4, .long _)] [.long _] _ _ _ _
    refine pm_e_sim pm_a50_1 rfl ?_
    show pm_E _ _ _ 2 [(0, .long _), (2, .long _), (4, .long _)] [.long _, .long _] _ _ _ _
    refine pm_e_sim pm_a50_2 rfl ?_
    show pm_E _ _ _ 3 [(0, .long _), (2, .long _), (4, .long _)] [.int _] _ _ _ _
    refine pm_e_ift pm_a50_3 rfl (pm_zl_lt 0 (by decide +kernel) (by omega) (by decide +kernel)) ?_
    show pm_E _ _ _ 17 [(0, .long _), (2, .long _), (4, .long _)] [] _ _ _ _
    refine pm_e_sim pm_a50_17 rfl ?_
    refine pm_e_top (y := 0) (by decide +kernel) ?_
    show pm_E _ _ _ 18 [(0, .long _), (2, .long _), (4, .long _)] [.int 0] _ _ _ _
    refine pm_e_ret pm_a50_18 rfl rfl rfl rfl rfl rfl rfl rfl ?_
    show pm_E _ _ _ 13 [(0, .ref 18), (1, .int _)] [.int 0] _ _ _ _
    refine pm_e_ret pm_a61_13 rfl rfl rfl rfl rfl rfl rfl rfl ?_
    show pm_E _ _ _ 5 [(0, .ref 18), (1, .int _), (2, .int _), (3, .int _)] [.int 0] _ _ _ _
    refine pm_e_ift pm_a68_5 rfl (by decide +kernel) ?_
    show pm_E _ _ _ 32 [(0, .ref 18), (1, .int _), (2, .int _), (3, .int _)] [] _ _ _ _
    refine pm_e_sim pm_a68_32 rfl ?_
    refine pm_e_top (y := (-1)) (by decide +kernel) ?_
    show pm_E _ _ _ 33 [(0, .ref 18), (1, .int _), (2, .int _), (3, .int _)] [.int (-1)] _ _ _ _
    refine pm_e_ret pm_a68_33 rfl rfl rfl rfl rfl rfl rfl rfl ?_
    show pm_E _ _ _ 501 [(3, .int 0), (2, .ref 18), (1, .ref 0), (0, .retAddr 0)] [.int (-1), .int (-1)] _ _ _ _
    refine pm_e_ict pm_a0_501 rfl (by decide +kernel) ?_
    show pm_E _ _ _ 779 [(3, .int 0), (2, .ref 18), (1, .ref 0), (0, .retAddr 0)] [] _ _ _ _
    refine pm_e_inc (y := 6) pm_a0_779 rfl (by decide +kernel) (by decide +kernel) rfl ?_
    show pm_E _ _ _ 782 [(3, .int 6), (2, .ref 18), (1, .ref 0), (0, .retAddr 0)] [] _ _ _ _
    refine pm_e_goto pm_a0_782 rfl ?_
    show pm_E _ _ _ 18 [(3, .int 6), (2, .ref 18), (1, .ref 0), (0, .retAddr 0)] [] _ _ _ _
    refine pm_e_sim pm_a0_18 rfl ?_
    show pm_E _ _ _ 19 [(3, .int 6), (2, .ref 18), (1, .ref 0), (0, .retAddr 0)] [.int 6] _ _ _ _
    refine pm_e_sim pm_a0_19 rfl ?_
    show pm_E _ _ _ 20 [(3, .int 6), (2, .ref 18), (1, .ref 0), (0, .retAddr 0)] [.retAddr 0, .int 6] _ _ _ _
    refine pm_e_rd pm_a0_20 rfl rfl rfl ?_
    dsimp only
    refine pm_e_top (y := 6) (by decide +kernel) ?_
    show pm_E _ _ _ 21 [(3, .int 6), (2, .ref 18), (1, .ref 0), (0, .retAddr 0)] [.int 6, .int 6] _ _ _ _
    refine pm_e_sim pm_a0_21 rfl ?_
    refine pm_e_top (y := 6) (by decide +kernel) ?_
    show pm_E _ _ _ 23 [(3, .int 6), (2, .ref 18), (1, .ref 0), (0, .retAddr 0)] [.int 6, .int 6, .int 6] _ _ _ _
    refine pm_e_sim pm_a0_23 rfl ?_
    refine pm_e_top (y := 0) (by decide +kernel) ?_
    show pm_E _ _ _ 24 [(3, .int 6), (2, .ref 18), (1, .ref 0), (0, .retAddr 0)] [.int 0, .int 6] _ _ _ _
    refine pm_e_ict pm_a0_24 rfl (by decide +kernel) ?_
    show pm_E _ _ _ 785 [(3, .int 6), (2, .ref 18), (1, .ref 0), (0, .retAddr 0)] [] _ _ _ _
    refine pm_e_sim pm_a0_785 rfl ?_
    refine pm_e_top (y := 1) (by decide +kernel) ?_
    show pm_E _ _ _ 786 [(3, .int 6), (2, .ref 18), (1, .ref 0), (0, .retAddr 0)] [.int 1] _ _ _ _
    refine pm_e_ret pm_a0_786 rfl rfl rfl rfl rfl rfl rfl rfl ?_
    exact hQ _ _ _ (by decide +kernel) (by decide +kernel)
  · refine pm_e_tsi (t := 463) pm_a0_33 rfl (by decide +kernel) ?_
    show pm_E _ _ _ 463 [(3, .int 0), (2, .ref 18), (1, .ref 0), (0, .retAddr 0)] [] _ _ _ _
    refine pm_e_sim pm_a0_463 rfl ?_
    show pm_E _ _ _ 464 [(3, .int 0), (2, .ref 18), (1, .ref 0), (0, .retAddr 0)] [.ref 0] _ _ _ _
    refine pm_e_sim pm_a0_464 rfl ?_
    show pm_E _ _ _ 465 [(3, .int 0), (2, .ref 18), (1, .ref 0), (0, .retAddr 0)] [.retAddr 0, .ref 0] _ _ _ _
    refine pm_e_sim pm_a0_465 rfl ?_
    show pm_E _ _ _ 466 [(3, .int 0), (2, .ref 18), (1, .ref 0), (0, .retAddr 0)] [.int 0, .retAddr 0, .ref 0] _ _ _ _
    refine pm_e_sim pm_a0_466 rfl ?_
    refine pm_e_top (y := 1) (by decide +kernel) ?_
    show pm_E _ _ _ 467 [(3, .int 0), (2, .ref 18), (1, .ref 0), (0, .retAddr 0)] [.int 1, .int 0, .retAddr 0, .ref 0] _ _ _ _
    refine pm_e_sim pm_a0_467 rfl ?_
    refine pm_e_top (y := 1) (by decide +kernel) ?_
    show pm_E _ _ _ 468 [(3, .int 0), (2, .ref 18), (1, .ref 0), (0, .retAddr 0)] [.int 1, .retAddr 0, .ref 0] _ _ _ _
    refine pm_e_sld (j := 1) pm_a0_468 (by decide +kernel) ?_
    show pm_E _ _ _ 469 [(3, .int 0), (2, .ref 18), (1, .ref 0), (0, .retAddr 0)] [.int _, .ref 0] _ _ _ _
    refine pm_e_sim pm_a0_469 rfl ?_
    show pm_E _ _ _ 470 [(3, .int 0), (2, .ref 18), (1, .ref 0), (0, .retAddr 0)] [.retAddr 0, .int _, .ref 0] _ _ _ _
    refine pm_e_sim pm_a0_470 rfl ?_
    show pm_E _ _ _ 471 [(3, .int 0), (2, .ref 18), (1, .ref 0), (0, .retAddr 0)] [.int 0, .retAddr 0, .int _, .ref 0] _ _ _ _
    refine pm_e_sim pm_a0_471 rfl ?_
    refine pm_e_top (y := 2) (by decide +kernel) ?_
    show pm_E _ _ _ 472 [(3, .int 0), (2, .ref 18), (1, .ref 0), (0, .retAddr 0)] [.int 2, .int 0, .retAddr 0, .int _, .ref 0] _ _ _ _
    refine pm_e_sim pm_a0_472 rfl ?_
    refine pm_e_top (y := 2) (by decide +kernel) ?_
    show pm_E _ _ _ 473 [(3, .int 0), (2, .ref 18), (1, .ref 0), (0, .retAddr 0)] [.int 2, .retAddr 0, .int _, .ref 0] _ _ _ _
    refine pm_e_sld (j := 2) pm_a0_473 (by decide +kernel) ?_
    show pm_E _ _ _ 474 [(3, .int 0), (2, .ref 18), (1, .ref 0), (0, .retAddr 0)] [.int _, .int _, .ref 0] _ _ _ _
    refine pm_e_sim pm_a0_474 rfl ?_
    show pm_E _ _ _ 475 [(3, .int 0), (2, .ref 18), (1, .ref 0), (0, .retAddr 0)] [.retAddr 0, .int _, .int _, .ref 0] _ _ _ _
    refine pm_e_sim pm_a0_475 rfl ?_
    show pm_E _ _ _ 476 [(3, .int 0), (2, .ref 18), (1, .ref 0), (0, .retAddr 0)] [.int 0, .retAddr 0, .int _, .int _, .ref 0] _ _ _ _
    refine pm_e_sim pm_a0_476 rfl ?_
    refine pm_e_top (y := 3) (by decide +kernel) ?_
    show pm_E _ _ _ 477 [(3, .int 0), (2, .ref 18), (1, .ref 0), (0, .retAddr 0)] [.int 3, .int 0, .retAddr 0, .int _, .int _, .ref 0] _ _ _ _
    refine pm_e_sim pm_a0_477 rfl ?_
    refine pm_e_top (y := 3) (by decide +kernel) ?_
    show pm_E _ _ _ 478 [(3, .int 0), (2, .ref 18), (1, .ref 0), (0, .retAddr 0)] [.int 3, .retAddr 0, .int _, .int _, .ref 0] _ _ _ _
    refine pm_e_sld (j := 3) pm_a0_478 (by decide +kernel) ?_
    show pm_E _ _ _ 479 [(3, .int 0), (2, .ref 18), (1, .ref 0), (0, .retAddr 0)] [.int _, .int _, .int _, .ref 0] _ _ _ _
    refine pm_e_call (T2 := pm_mm33) pm_a0_479 rfl rfl rfl rfl rfl rfl rfl rfl rfl ?_
    show pm_E _ _ _ 0 [(0, .ref 0), (1, .int _), (2, .int _), (3, .int _)] [] _ _ _ _
    refine pm_e_sim pm_a33_0 rfl ?_
    show pm_E _ _ _ 1 [(0, .ref 0), (1, .int _), (2, .int _), (3, .int _)] [.ref 0] _ _ _ _
    refine pm_e_sim pm_a33_1 rfl ?_
    show pm_E _ _ _ 2 [(0, .ref 0), (1, .int _), (2, .int _), (3, .int _)] [.int _, .ref 0] _ _ _ _
    refine pm_e_call (T2 := pm_mm26) pm_a33_2 rfl rfl rfl rfl rfl rfl rfl rfl rfl ?_
    show pm_E _ _ _ 0 [(0, .ref 0), (1, .int _)] [] _ _ _ _
    refine pm_e_sim pm_a26_0 rfl ?_
    show pm_E _ _ _ 1 [(0, .ref 0), (1, .int _)] [.int _] _ _ _ _
    refine pm_e_iff pm_a26_1 rfl (pm_z_lt_f 0 (by decide +kernel) (by omega)) ?_
    show pm_E _ _ _ 4 [(0, .ref 0), (1, .int _)] [] _ _ _ _
    refine pm_e_sim pm_a26_4 rfl ?_
    show pm_E _ _ _ 5 [(0, .ref 0), (1, .int _)] [.int _] _ _ _ _
    refine pm_e_sim pm_a26_5 rfl ?_
    show pm_E _ _ _ 6 [(0, .ref 0), (1, .int _)] [.ref 0, .int _] _ _ _ _
    refine pm_e_rd pm_a26_6 rfl rfl rfl ?_
    show pm_E _ _ _ 9 [(0, .ref 0), (1, .int _)] [.int 0, .int _] _ _ _ _
    refine pm_e_ict pm_a26_9 rfl (pm_z_ge_t 0 (by decide +kernel) (by omega)) ?_
    show pm_E _ _ _ 30 [(0, .ref 0), (1, .int _)] [] _ _ _ _
    refine pm_e_sim pm_a26_30 rfl ?_
    show pm_E _ _ _ 31 [(0, .ref 0), (1, .int _)] [.null] _ _ _ _
    refine pm_e_ret pm_a26_31 rfl rfl rfl rfl rfl rfl rfl rfl ?_
    show pm_E _ _ _ 5 [(0, .ref 0), (1, .int _), (2, .int _), (3, .int _)] [.null] _ _ _ _
    refine pm_e_sim pm_a33_5 rfl ?_
    show pm_E _ _ _ 7 [(4, .null), (0, .ref 0), (1, .int _), (2, .int _), (3, .int _)] [] _ _ _ _
    refine pm_e_sim pm_a33_7 rfl ?_
    show pm_E _ _ _ 9 [(4, .null), (0, .ref 0), (1, .int _), (2, .int _), (3, .int _)] [.null] _ _ _ _
    refine pm_e_jmp (pc2 := 26) pm_a33_9 rfl rfl ?_
    show pm_E _ _ _ 26 [(4, .null), (0, .ref 0), (1, .int _), (2, .int _), (3, .int _)] [] _ _ _ _
    refine pm_e_sim pm_a33_26 rfl ?_
    refine pm_e_top (y := (-1)) (by decide +kernel) ?_
    show pm_E _ _ _ 27 [(4, .null), (0, .ref 0), (1, .int _), (2, .int _), (3, .int _)] [.int (-1)] _ _ _ _
    refine pm_e_ret pm_a33_27 rfl rfl rfl rfl rfl rfl rfl rfl ?_
    show pm_E _ _ _ 482 [(3, .int 0), (2, .ref 18), (1, .ref 0), (0, .retAddr 0)] [.int (-1)] _ _ _ _
    refine pm_e_sim pm_a0_482 rfl ?_
    show pm_E _ _ _ 483 [(3, .int 0), (2, .ref 18), (1, .ref 0), (0, .retAddr 0)] [.ref 18, .int (-1)] _ _ _ _
    refine pm_e_sim pm_a0_483 rfl ?_
    show pm_E _ _ _ 484 [(3, .int 0), (2, .ref 18), (1, .ref 0), (0, .retAddr 0)] [.retAddr 0, .ref 18, .int (-1)] _ _ _ _
    refine pm_e_sim pm_a0_484 rfl ?_
    show pm_E _ _ _ 485 [(3, .int 0), (2, .ref 18), (1, .ref 0), (0, .retAddr 0)] [.int 0, .retAddr 0, .ref 18, .int (-1)] _ _ _ _
    refine pm_e_sim pm_a0_485 rfl ?_
    refine pm_e_top (y := 1) (by decide +kernel) ?_
    show pm_E _ _ _ 486 [(3, .int 0), (2, .ref 18), (1, .ref 0), (0, .retAddr 0)] [.int 1, .int 0, .retAddr 0, .ref 18, .int (-1)] _ _ _ _
    refine pm_e_sim pm_a0_486 rfl ?_
    refine pm_e_top (y := 1) (by decide +kernel) ?_
    show pm_E _ _ _ 487 [(3, .int 0), (2, .ref 18), (1, .ref 0), (0, .retAddr 0)] [.int 1, .retAddr 0, .ref 18, .int (-1)] _ _ _ _
    refine pm_e_sld (j := 1) pm_a0_487 (by decide +kernel) ?_
    show pm_E _ _ _ 488 [(3, .int 0), (2, .ref 18), (1, .ref 0), (0, .retAddr 0)] [.int _, .ref 18, .int (-1)] _ _ _ _
    refine pm_e_sim pm_a0_488 rfl ?_
    show pm_E _ _ _ 489 [(3, .int 0), (2, .ref 18), (1, .ref 0), (0, .retAddr 0)] [.retAddr 0, .int _, .ref 18, .int (-1)] _ _ _ _
    refine pm_e_sim pm_a0_489 rfl ?_
    show pm_E _ _ _ 490 [(3, .int 0), (2, .ref 18), (1, .ref 0), (0, .retAddr 0)] [.int 0, .retAddr 0, .int _, .ref 18, .int (-1)] _ _ _ _
    refine pm_e_sim pm_a0_490 rfl ?_
    refine pm_e_top (y := 2) (by decide +kernel) ?_
    show pm_E _ _ _ 491 [(3, .int 0), (2, .ref 18), (1, .ref 0), (0, .retAddr 0)] [.int 2, .int 0, .retAddr 0, .int _, .ref 18, .int (-1)] _ _ _ _
    refine pm_e_sim pm_a0_491 rfl ?_
    refine pm_e_top (y := 2) (by decide +kernel) ?_
    show pm_E _ _ _ 492 [(3, .int 0), (2, .ref 18), (1, .ref 0), (0, .retAddr 0)] [.int 2, .retAddr 0, .int _, .ref 18, .int (-1)] _ _ _ _
    refine pm_e_sld (j := 2) pm_a0_492 (by decide +kernel) ?_
    show pm_E _ _ _ 493 [(3, .int 0), (2, .ref 18), (1, .ref 0), (0, .retAddr 0)] [.int _, .int _, .ref 18, .int (-1)] _ _ _ _
    refine pm_e_sim pm_a0_493 rfl ?_
    show pm_E _ _ _ 494 [(3, .int 0), (2, .ref 18), (1, .ref 0), (0, .retAddr 0)] [.retAddr 0, .int _, .int _, .ref 18, .int (-1)] _ _ _ _
    refine pm_e_sim pm_a0_494 rfl ?_
    show pm_E _ _ _ 495 [(3, .int 0), (2, .ref 18), (1, .ref 0), (0, .retAddr 0)] [.int 0, .retAddr 0, .int _, .int _, .ref 18, .int (-1)] _ _ _ _
    refine pm_e_sim pm_a0_495 rfl ?_
    refine pm_e_top (y := 3) (by decide +kernel) ?_
    show pm_E _ _ _ 496 [(3, .int 0), (2, .ref 18), (1, .ref 0), (0, .retAddr 0)] [.int 3, .int 0, .retAddr 0, .int _, .int _, .ref 18, .int (-1)] _ _ _ _
    refine pm_e_sim pm_a0_496 rfl ?_
    refine pm_e_top (y := 3) (by decide +kernel) ?_
    show pm_E _ _ _ 497 [(3, .int 0), (2, .ref 18), (1, .ref 0), (0, .retAddr 0)] [.int 3, .retAddr 0, .int _, .int _, .ref 18, .int (-1)] _ _ _ _
    refine pm_e_sld (j := 3) pm_a0_497 (by decide +kernel) ?_
    show pm_E _ _ _ 498 [(3, .int 0), (2, .ref 18), (1, .ref 0), (0, .retAddr 0)] [.int _, .int _, .int _, .ref 18, .int (-1)] _ _ _ _
    refine pm_e_call (T2 := pm_mm68) pm_a0_498 rfl rfl rfl rfl rfl rfl rfl rfl rfl ?_
    show pm_E _ _ _ 0 [(0, .ref 18), (1, .int _), (2, .int _), (3, .int _)] [] _ _ _ _
    refine pm_e_sim pm_a68_0 rfl ?_
    show pm_E _ _ _ 1 [(0, .ref 18), (1, .int _), (2, .int _), (3, .int _)] [.ref 18] _ _ _ _
    refine pm_e_sim pm_a68_1 rfl ?_
    show pm_E _ _ _ 2 [(0, .ref 18), (1, .int _), (2, .int _), (3, .int _)] [.int _, .ref 18] _ _ _ _
    refine pm_e_call (T2 := pm_mm61) pm_a68_2 rfl rfl rfl rfl rfl rfl rfl rfl rfl ?_
    show pm_E _ _ _ 0 [(0, .ref 18), (1, .int _)] [] _ _ _ _
    refine pm_e_sim pm_a61_0 rfl ?_
    show pm_E _ _ _ 1 [(0, .ref 18), (1, .int _)] [.int _] _ _ _ _
    refine pm_e_sim pm_a61_1 rfl ?_
    show pm_E _ _ _ 2 [(0, .ref 18), (1, .int _)] [.long _] _ _ _ _
    refine pm_e_sim pm_a61_2 rfl ?_
    show pm_E _ _ _ 3 [(0, .ref 18), (1, .int _)] [.long _, .long _] _ _ _ _
    refine pm_e_sim pm_a61_3 rfl ?_
    show pm_E _ _ _ 4 [(0, .ref 18), (1, .int _)] [.ref 18, .long _, .long _] _ _ _ _
    refine pm_e_rd pm_a61_4 rfl rfl rfl ?_
    show pm_E _ _ _ 7 [(0, .ref 18), (1, .int _)] [.int 0, .long _, .long _] _ _ _ _
    refine pm_e_sim pm_a61_7 rfl ?_
    refine pm_e_top (y := 1) (by decide +kernel) ?_
    show pm_E _ _ _ 8 [(0, .ref 18), (1, .int _)] [.int 1, .int 0, .long _, .long _] _ _ _ _
    refine pm_e_sim pm_a61_8 rfl ?_
    refine pm_e_top (y := (-1)) (by decide +kernel) ?_
    show pm_E _ _ _ 9 [(0, .ref 18), (1, .int _)] [.int (-1), .long _, .long _] _ _ _ _
    refine pm_e_sim pm_a61_9 rfl ?_
    show pm_E _ _ _ 10 [(0, .ref 18), (1, .int _)] [.long _, .long _, .long _] _ _ _ _
    refine pm_e_call (T2 := pm_mm50) pm_a61_10 rfl rfl rfl rfl rfl rfl rfl rfl rfl ?_
    show pm_E _ _ _ 0 [(0, .long _), (2, .long _), (4, .long _)] [] _ _ _ _
    refine pm_e_sim pm_a50_0 rfl ?_
    show pm_E _ _ _ 1 [(0, .long _), (2, .long _), (4, .long _)] [.long _] _ _ _ _
    refine pm_e_sim pm_a50_1 rfl ?_
    show pm_E _ _ _ 2 [(0, .long _), (2, .long _), (4, .long _)] [.long _, .long _] _ _ _ _
    refine pm_e_sim pm_a50_2 rfl ?_
    show pm_E _ _ _ 3 [(0, .long _), (2, .long _), (4, .long _)] [.int _] _ _ _ _
    refine pm_e_iff pm_a50_3 rfl (pm_zl_eq 0 (by decide +kernel) (by omega) (by decide +kernel)) ?_
    show pm_E _ _ _ 6 [(0, .long _), (2, .long _), (4, .long _)] [] _ _ _ _
    refine pm_e_sim pm_a50_6 rfl ?_
    show pm_E _ _ _ 7 [(0, .long _), (2, .long _), (4, .long _)] [.long _] _ _ _ _
    refine pm_e_sim pm_a50_7 rfl ?_
    show pm_E _ _ _ 9 [(0, .long _), (2, .long _), (4, .long _)] [.long _, .long _] _ _ _ _
    refine pm_e_sim pm_a50_9 rfl ?_
    show pm_E _ _ _ 10 [(0, .long _), (2, .long _), (4, .long _)] [.int _] _ _ _ _
    refine pm_e_ift pm_a50_10 rfl (pm_zl_gt (-1) (by decide +kernel) (by omega) (by decide +kernel)) ?_
    show pm_E _ _ _ 17 [(0, .long _), (2, .long _), (4, .long _)] [] _ _ _ _
    refine pm_e_sim pm_a50_17 rfl ?_
    refine pm_e_top (y := 0) (by decide +kernel) ?_
    show pm_E _ _ _ 18 [(0, .long _), (2, .long _), (4, .long _)] [.int 0] _ _ _ _
    refine pm_e_ret pm_a50_18 rfl rfl rfl rfl rfl rfl rfl rfl ?_
    show pm_E _ _ _ 13 [(0, .ref 18), (1, .int _)] [.int 0] _ _ _ _
    refine pm_e_ret pm_a61_13 rfl rfl rfl rfl rfl rfl rfl rfl ?_
    show pm_E _ _ _ 5 [(0, .ref 18), (1, .int _), (2, .int _), (3, .int _)] [.int 0] _ _ _ _
    refine pm_e_ift pm_a68_5 rfl (by decide +kernel) ?_
    show pm_E _ _ _ 32 [(0, .ref 18), (1, .int _), (2, .int _), (3, .int _)] [] _ _ _ _
    refine pm_e_sim pm_a68_32 rfl ?_
    refine pm_e_top (y := (-1)) (by decide +kernel) ?_
    show pm_E _ _ _ 33 [(0, .ref 18), (1, .int _), (2, .int _), (3, .int _)] [.int (-1)] _ _ _ _
    refine pm_e_ret pm_a68_33 rfl rfl rfl rfl rfl rfl rfl rfl ?_
    show pm_E _ _ _ 501 [(3, .int 0), (2, .ref 18), (1, .ref 0), (0, .retAddr 0)] [.int (-1), .int (-1)] _ _ _ _
    refine pm_e_ict pm_a0_501 rfl (by decide +kernel) ?_
    show pm_E _ _ _ 779 [(3, .int 0), (2, .ref 18), (1, .ref 0), (0, .retAddr 0)] [] _ _ _ _
    refine pm_e_inc (y := 6) pm_a0_779 rfl (by decide +kernel) (by decide +kernel) rfl ?_
    show pm_E _ _ _ 782 [(3, .int 6), (2, .ref 18), (1, .ref 0), (0, .retAddr 0)] [] _ _ _ _
    refine pm_e_goto pm_a0_782 rfl ?_
    show pm_E _ _ _ 18 [(3, .int 6), (2, .ref 18), (1, .ref 0), (0, .retAddr 0)] [] _ _ _ _
    refine pm_e_sim pm_a0_18 rfl ?_
    show pm_E _ _ _ 19 [(3, .int 6), (2, .ref 18), (1, .ref 0), (0, .retAddr 0)] [.int 6] _ _ _ _
    refine pm_e_sim pm_a0_19 rfl ?_
    show pm_E _ _ _ 20 [(3, .int 6), (2, .ref 18), (1, .ref 0), (0, .retAddr 0)] [.retAddr 0, .int 6] _ _ _ _
    refine pm_e_rd pm_a0_20 rfl rfl rfl ?_
    dsimp only
    refine pm_e_top (y := 6) (by decide +kernel) ?_
    show pm_E _ _ _ 21 [(3, .int 6), (2, .ref 18), (1, .ref 0), (0, .retAddr 0)] [.int 6, .int 6] _ _ _ _
    refine pm_e_sim pm_a0_21 rfl ?_
    refine pm_e_top (y := 6) (by decide +kernel) ?_
    show pm_E _ _ _ 23 [(3, .int 6), (2, .ref 18), (1, .ref 0), (0, .retAddr 0)] [.int 6, .int 6, .int 6] _ _ _ _
    refine pm_e_sim pm_a0_23 rfl ?_
    refine pm_e_top (y := 0) (by decide +kernel) ?_
    show pm_E _ _ _ 24 [(3, .int 6), (2, .ref 18), (1, .ref 0), (0, .retAddr 0)] [.int 0, .int 6] _ _ _ _
    refine pm_e_ict pm_a0_24 rfl (by decide +kernel) ?_
    show pm_E _ _ _ 785 [(3, .int 6), (2, .ref 18), (1, .ref 0), (0, .retAddr 0)] [] _ _ _ _
    refine pm_e_sim pm_a0_785 rfl ?_
    refine pm_e_top (y := 1) (by decide +kernel) ?_
    show pm_E _ _ _ 786 [(3, .int 6), (2, .ref 18), (1, .ref 0), (0, .retAddr 0)] [.int 1] _ _ _ _
    refine pm_e_ret pm_a0_786 rfl rfl rfl rfl rfl rfl rfl rfl ?_
    exact hQ _ _ _ (by decide +kernel) (by decide +kernel)
  · refine pm_e_tsi (t := 463) pm_a0_33 rfl (by decide +kernel) ?_
    show pm_E _ _ _ 463 [(3, .int 0), (2, .ref 18), (1, .ref 0), (0, .retAddr 0)] [] _ _ _ _
    refine pm_e_sim pm_a0_463 rfl ?_
    show pm_E _ _ _ 464 [(3, .int 0), (2, .ref 18), (1, .ref 0), (0, .retAddr 0)] [.ref 0] _ _ _ _
    refine pm_e_sim pm_a0_464 rfl ?_
    show pm_E _ _ _ 465 [(3, .int 0), (2, .ref 18), (1, .ref 0), (0, .retAddr 0)] [.retAddr 0, .ref 0] _ _ _ _
    refine pm_e_sim pm_a0_465 rfl ?_
    show pm_E _ _ _ 466 [(3, .int 0), (2, .ref 18), (1, .ref 0), (0, .retAddr 0)] [.int 0, .retAddr 0, .ref 0] _ _ _ _
    refine pm_e_sim pm_a0_466 rfl ?_
    refine pm_e_top (y := 1) (by decide +kernel) ?_
    show pm_E _ _ _ 467 [(3, .int 0), (2, .ref 18), (1, .ref 0), (0, .retAddr 0)] [.int 1, .int 0, .retAddr 0, .ref 0] _ _ _ _
    refine pm_e_sim pm_a0_467 rfl ?_
    refine pm_e_top (y := 1) (by decide +kernel) ?_
    show pm_E _ _ _ 468 [(3, .int 0), (2, .ref 18), (1, .ref 0), (0, .retAddr 0)] [.int 1, .retAddr 0, .ref 0] _ _ _ _
    refine pm_e_sld (j := 1) pm_a0_468 (by decide +kernel) ?_
    show pm_E _ _ _ 469 [(3, .int 0), (2, .ref 18), (1, .ref 0), (0, .retAddr 0)] [.int _, .ref 0] _ _ _ _
    refine pm_e_sim pm_a0_469 rfl ?_
    show pm_E _ _ _ 470 [(3, .int 0), (2, .ref 18), (1, .ref 0), (0, .retAddr 0)] [.retAddr 0, .int _, .ref 0] _ _ _ _
    refine pm_e_sim pm_a0_470 rfl ?_
    show pm_E _ _ _ 471 [(3, .int 0), (2, .ref 18), (1, .ref 0), (0, .retAddr 0)] [.int 0, .retAddr 0, .int _, .ref 0] _ _ _ _
    refine pm_e_sim pm_a0_471 rfl ?_
    refine pm_e_top (y := 2) (by decide +kernel) ?_
    show pm_E _ _ _ 472 [(3, .int 0), (2, .ref 18), (1, .ref 0), (0, .retAddr 0)] [.int 2, .int 0, .retAddr 0, .int _, .ref 0] _ _ _ _
    refine pm_e_sim pm_a0_472 rfl ?_
    refine pm_e_top (y := 2) (by decide +kernel) ?_
    show pm_E _ _ _ 473 [(3, .int 0), (2, .ref 18), (1, .ref 0), (0, .retAddr 0)] [.int 2, .retAddr 0, .int _, .ref 0] _ _ _ _
    refine pm_e_sld (j := 2) pm_a0_473 (by decide +kernel) ?_
    show pm_E _ _ _ 474 [(3, .int 0), (2, .ref 18), (1, .ref 0), (0, .retAddr 0)] [.int _, .int _, .ref 0] _ _ _ _
    refine pm_e_sim pm_a0_474 rfl ?_
    show pm_E _ _ _ 475 [(3, .int 0), (2, .ref 18), (1, .ref 0), (0, .retAddr 0)] [.retAddr 0, .int _, .int _, .ref 0] _ _ _ _
    refine pm_e_sim pm_a0_475 rfl ?_
    show pm_E _ _ _ 476 [(3, .int 0), (2, .ref 18), (1, .ref 0), (0, .retAddr 0)] [.int 0, .retAddr 0, .int _, .int _, .ref 0] _ _ _ _
    refine pm_e_sim pm_a0_476 rfl ?_
    refine pm_e_top (y := 3) (by decide +kernel) ?_
    show pm_E _ _ _ 477 [(3, .int 0), (2, .ref 18), (1, .ref 0), (0, .retAddr 0)] [.int 3, .int 0, .retAddr 0, .int _, .int _, .ref 0] _ _ _ _
    refine pm_e_sim pm_a0_477 rfl ?_
    refine pm_e_top (y := 3) (by decide +kernel) ?_
    show pm_E _ _ _ 478 [(3, .int 0), (2, .ref 18), (1, .ref 0), (0, .retAddr 0)] [.int 3, .retAddr 0, .int _, .int _, .ref 0] _ _ _ _
    refine pm_e_sld (j := 3) pm_a0_478 (by decide +kernel) ?_
    show pm_E _ _ _ 479 [(3, .int 0), (2, .ref 18), (1, .ref 0), (0, .retAddr 0)] [.int _, .int _, .int _, .ref 0] _ _ _ _
    refine pm_e_call (T2 := pm_mm33) pm_a0_479 rfl rfl rfl rfl rfl rfl rfl rfl rfl ?_
    show pm_E _ _ _ 0 [(0, .ref 0), (1, .int _), (2, .int _), (3, .int _)] [] _ _ _ _
    refine pm_e_sim pm_a33_0 rfl ?_
    show pm_E _ _ _ 1 [(0, .ref 0), (1, .int _), (2, .int _), (3, .int _)] [.ref 0] _ _ _ _
    refine pm_e_sim pm_a33_1 rfl ?_
    show pm_E _ _ _ 2 [(0, .ref 0), (1, .int _), (2, .int _), (3, .int _)] [.int _, .ref 0] _ _ _ _
    refine pm_e_call (T2 := pm_mm26) pm_a33_2 rfl rfl rfl rfl rfl rfl rfl rfl rfl ?_
    show pm_E _ _ _ 0 [(0, .ref 0), (1, .int _)] [] _ _ _ _
    refine pm_e_sim pm_a26_0 rfl ?_
    show pm_E _ _ _ 1 [(0, .ref 0), (1, .int _)] [.int _] _ _ _ _
    refine pm_e_iff pm_a26_1 rfl (pm_z_lt_f 0 (by decide +kernel) (by omega)) ?_
    show pm_E _ _ _ 4 [(0, .ref 0), (1, .int _)] [] _ _ _ _
    refine pm_e_sim pm_a26_4 rfl ?_
    show pm_E _ _ _ 5 [(0, .ref 0), (1, .int _)] [.int _] _ _ _ _
    refine pm_e_sim pm_a26_5 rfl ?_
    show pm_E _ _ _ 6 [(0, .ref 0), (1, .int _)] [.ref 0, .int _] _ _ _ _
    refine pm_e_rd pm_a26_6 rfl rfl rfl ?_
    show pm_E _ _ _ 9 [(0, .ref 0), (1, .int _)] [.int 0, .int _] _ _ _ _
    refine pm_e_ict pm_a26_9 rfl (pm_z_ge_t 0 (by decide +kernel) (by omega)) ?_
    show pm_E _ _ _ 30 [(0, .ref 0), (1, .int _)] [] _ _ _ _
    refine pm_e_sim pm_a26_30 rfl ?_
    show pm_E _ _ _ 31 [(0, .ref 0), (1, .int _)] [.null] _ _ _ _
    refine pm_e_ret pm_a26_31 rfl rfl rfl rfl rfl rfl rfl rfl ?_
    show pm_E _ _ _ 5 [(0, .ref 0), (1, .int _), (2, .int _), (3, .int _)] [.null] _ _ _ _
    refine pm_e_sim pm_a33_5 rfl ?_
    show pm_E _ _ _ 7 [(4, .null), (0, .ref 0), (1, .int _), (2, .int _), (3, .int _)] [] _ _ _ _
    refine pm_e_sim pm_a33_7 rfl ?_
    show pm_E _ _ _ 9 [(4, .null), (0, .ref 0), (1, .int _), (2, .int _), (3, .int _)] [.null] _ _ _ _
    refine pm_e_jmp (pc2 := 26) pm_a33_9 rfl rfl ?_
    show pm_E _ _ _ 26 [(4, .null), (0, .ref 0), (1, .int _), (2, .int _), (3, .int _)] [] _ _ _ _
    refine pm_e_sim pm_a33_26 rfl ?_
    refine pm_e_top (y := (-1)) (by decide +kernel) ?_
    show pm_E _ _ _ 27 [(4, .null), (0, .ref 0), (1, .int _), (2, .int _), (3, .int _)] [.int (-1)] _ _ _ _
    refine pm_e_ret pm_a33_27 rfl rfl rfl rfl rfl rfl rfl rfl ?_
    show pm_E _ _ _ 482 [(3, .int 0), (2, .ref 18), (1, .ref 0), (0, .retAddr 0)] [.int (-1)] _ _ _ _
    refine pm_e_sim pm_a0_482 rfl ?_
    show pm_E _ _ _ 483 [(3, .int 0), (2, .ref 18), (1, .ref 0), (0, .retAddr 0)] [.ref 18, .int (-1)] _ _ _ _
    refine pm_e_sim pm_a0_483 rfl ?_
    show pm_E _ _ _ 484 [(3, .int 0), (2, .ref 18), (1, .ref 0), (0, .retAddr 0)] [.retAddr 0, .ref 18, .int (-1)] _ _ _ _
    refine pm_e_sim pm_a0_484 rfl ?_
    show pm_E _ _ _ 485 [(3, .int 0), (2, .ref 18), (1, .ref 0), (0, .retAddr 0)] [.int 0, .retAddr 0, .ref 18, .int (-1)] _ _ _ _
    refine pm_e_sim pm_a0_485 rfl ?_
    refine pm_e_top (y := 1) (by decide +kernel) ?_
    show pm_E _ _ _ 486 [(3, .int 0), (2, .ref 18), (1, .ref 0), (0, .retAddr 0)] [.int 1, .int 0, .retAddr 0, .ref 18, .int (-1)] _ _ _ _
    refine pm_e_sim pm_a0_486 rfl ?_
    refine pm_e_top (y := 1) (by decide +kernel) ?_
    show pm_E _ _ _ 487 [(3, .int 0), (2, .ref 18), (1, .ref 0), (0, .retAddr 0)] [.int 1, .retAddr 0, .ref 18, .int (-1)] _ _ _ _
    refine pm_e_sld (j := 1) pm_a0_487 (by decide +kernel) ?_
    show pm_E _ _ _ 488 [(3, .int 0), (2, .ref 18), (1, .ref 0), (0, .retAddr 0)] [.int _, .ref 18, .int (-1)] _ _ _ _
    refine pm_e_sim pm_a0_488 rfl ?_
    show pm_E _ _ _ 489 [(3, .int 0), (2, .ref 18), (1, .ref 0), (0, .retAddr 0)] [.retAddr 0, .int _, .ref 18, .int (-1)] _ _ _ _
    refine pm_e_sim pm_a0_489 rfl ?_
    show pm_E _ _ _ 490 [(3, .int 0), (2, .ref 18), (1, .ref 0), (0, .retAddr 0)] [.int 0, .retAddr 0, .int _, .ref 18, .int (-1)] _ _ _ _
    refine pm_e_sim pm_a0_490 rfl ?_
    refine pm_e_top (y := 2) (by decide +kernel) ?_
    show pm_E _ _ _ 491 [(3, .int 0), (2, .ref 18), (1, .ref 0), (0, .retAddr 0)] [.int 2, .int 0, .retAddr 0, .int _, .ref 18, .int (-1)] _ _ _ _
    refine pm_e_sim pm_a0_491 rfl ?_
    refine pm_e_top (y := 2) (by decide +kernel) ?_
    show pm_E _ _ _ 492 [(3, .int 0), (2, .ref 18), (1, .ref 0), (0, .retAddr 0)] [.int 2, .retAddr 0, .int _, .ref 18, .int (-1)] _ _ _ _
    refine pm_e_sld (j := 2) pm_a0_492 (by decide +kernel) ?_
    show pm_E _ _ _ 493 [(3, .int 0), (2, .ref 18), (1, .ref 0), (0, .retAddr 0)] [.int _, .int _, .ref 18, .int (-1)] _ _ _ _
    refine pm_e_sim pm_a0_493 rfl ?_
    show pm_E _ _ _ 494 [(3, .int 0), (2, .ref 18), (1, .ref 0), (0, .retAddr 0)] [.retAddr 0, .int _, .int _, .ref 18, .int (-1)] _ _ _ _
    refine pm_e_sim pm_a0_494 rfl ?_
    show pm_E _ _ _ 495 [(3, .int 0), (2, .ref 18), (1, .ref 0), (0, .retAddr 0)] [.int 0, .retAddr 0, .int _, .int _, .ref 18, .int (-1)] _ _ _ _
    refine pm_e_sim pm_a0_495 rfl ?_
    refine pm_e_top (y := 3) (by decide +kernel) ?_
    show pm_E _ _ _ 496 [(3, .int 0), (2, .ref 18), (1, .ref 0), (0, .retAddr 0)] [.int 3, .int 0, .retAddr 0, .int _, .int _, .ref 18, .int (-1)] _ _ _ _
    refine pm_e_sim pm_a0_496 rfl ?_
    refine pm_e_top (y := 3) (by decide +kernel) ?_
    show pm_E _ _ _ 497 [(3, .int 0), (2, .ref 18), (1, .ref 0), (0, .retAddr 0)] [.int 3, .retAddr 0, .int _, .int _, .ref 18, .int (-1)] _ _ _ _
    refine pm_e_sld (j := 3) pm_a0_497 (by decide +kernel) ?_
    show pm_E _ _ _ 498 [(3, .int 0), (2, .ref 18), (1, .ref 0), (0, .retAddr 0)] [.int _, .int _, .int _, .ref 18, .int (-1)] _ _ _ _
    refine pm_e_call (T2 := pm_mm68) pm_a0_498 rfl rfl rfl rfl rfl rfl rfl rfl rfl ?_
    show pm_E _ _ _ 0 [(0, .ref 18), (1, .int _), (2, .int _), (3, .int _)] [] _ _ _ _
    refine pm_e_sim pm_a68_0 rfl ?_
    show pm_E _ _ _ 1 [(0, .ref 18), (1, .int _), (2, .int _), (3, .int _)] [.ref 18] _ _ _ _
    refine pm_e_sim pm_a68_1 rfl ?_
    show pm_E _ _ _ 2 [(0, .ref 18), (1, .int _), (2, .int _), (3, .int _)] [.int _, .ref 18] _ _ _ _
    refine pm_e_call (T2 := pm_mm61) pm_a68_2 rfl rfl rfl rfl rfl rfl rfl rfl rfl ?_
    show pm_E _ _ _ 0 [(0, .ref 18), (1, .int _)] [] _ _ _ _
    refine pm_e_sim pm_a61_0 rfl ?_
    show pm_E _ _ _ 1 [(0, .ref 18), (1, .int _)] [.int _] _ _ _ _
    refine pm_e_sim pm_a61_1 rfl ?_
    show pm_E _ _ _ 2 [(0, .ref 18), (1, .int _)] [.long _] _ _ _ _
    refine pm_e_sim pm_a61_2 rfl ?_
    show pm_E _ _ _ 3 [(0, .ref 18), (1, .int _)] [.long _, .long _] _ _ _ _
    refine pm_e_sim pm_a61_3 rfl ?_
    show pm_E _ _ _ 4 [(0, .ref 18), (1, .int _)] [.ref 18, .long _, .long _] _ _ _ _
    refine pm_e_rd pm_a61_4 rfl rfl rfl ?_
    show pm_E _ _ _ 7 [(0, .ref 18), (1, .int _)] [.int 0, .long _, .long _] _ _ _ _
    refine pm_e_sim pm_a61_7 rfl ?_
    refine pm_e_top (y := 1) (by decide +kernel) ?_
    show pm_E _ _ _ 8 [(0, .ref 18), (1, .int _)] [.int 1, .int 0, .long _, .long _] _ _ _ _
    refine pm_e_sim pm_a61_8 rfl ?_
    refine pm_e_top (y := (-1)) (by decide +kernel) ?_
    show pm_E _ _ _ 9 [(0, .ref 18), (1, .int _)] [.int (-1), .long _, .long _] _ _ _ _
    refine pm_e_sim pm_a61_9 rfl ?_
    show pm_E _ _ _ 10 [(0, .ref 18), (1, .int _)] [.long _, .long _, .long _] _ _ _ _
    refine pm_e_call (T2 := pm_mm50) pm_a61_10 rfl rfl rfl rfl rfl rfl rfl rfl rfl ?_
    show pm_E _ _ _ 0 [(0, .long _), (2, .long _), (4, .long _)] [] _ _ _ _
    refine pm_e_sim pm_a50_0 rfl ?_
    show pm_E _ _ _ 1 [(0, .long _), (2, .long _), (4, .long _)] [.long _] _ _ _ _
    refine pm_e_sim pm_a50_1 rfl ?_
    show pm_E _ _ _ 2 [(0, .long _), (2, .long _), (4, .long _)] [.long _, .long _] _ _ _ _
    refine pm_e_sim pm_a50_2 rfl ?_
    show pm_E _ _ _ 3 [(0, .long _), (2, .long _), (4, .long _)] [.int _] _ _ _ _
    refine pm_e_iff pm_a50_3 rfl (pm_zl_gt 0 (by decide +kernel) (by omega) (by decide +kernel)) ?_
    show pm_E _ _ _ 6 [(0, .long _), (2, .long _), (4, .long _)] [] _ _ _ _
    refine pm_e_sim pm_a50_6 rfl ?_
    show pm_E _ _ _ 7 [(0, .long _), (2, .long _), (4, .long _)] [.long _] _ _ _ _
    refine pm_e_sim pm_a50_7 rfl ?_
    show pm_E _ _ _ 9 [(0, .long _), (2, .long _), (4, .long _)] [.long _, .long _] _ _ _ _
    refine pm_e_sim pm_a50_9 rfl ?_
    show pm_E _ _ _ 10 [(0, .long _), (2, .long _), (4, .long _)] [.int _] _ _ _ _
    refine pm_e_ift pm_a50_10 rfl (pm_zl_gt (-1) (by decide +kernel) (by omega) (by decide +kernel)) ?_
    show pm_E _ _ _ 17 [(0, .long _), (2, .long _), (4, .long _)] [] _ _ _ _
    refine pm_e_sim pm_a50_17 rfl ?_
    refine pm_e_top (y := 0) (by decide +kernel) ?_
    show pm_E _ _ _ 18 [(0, .long _), (2, .long _), (4, .long _)] [.int 0] _ _ _ _
    refine pm_e_ret pm_a50_18 rfl rfl rfl rfl rfl rfl rfl rfl ?_
    show pm_E _ _ _ 13 [(0, .ref 18), (1, .int _)] [.int 0] _ _ _ _
    refine pm_e_ret pm_a61_13 rfl rfl rfl rfl rfl rfl rfl rfl ?_
    show pm_E _ _ _ 5 [(0, .ref 18), (1, .int _), (2, .int _), (3, .int _)] [.int 0] _ _ _ _
    refine pm_e_ift pm_a68_5 rfl (by decide +kernel) ?_
    show pm_E _ _ _ 32 [(0, .ref 18), (1, .int _), (2, .int _), (3, .int _)] [] _ _ _ _
    refine pm_e_sim pm_a68_32 rfl ?_
    refine pm_e_top (y := (-1)) (by decide +kernel) ?_
    show pm_E _ _ _ 33 [(0, .ref 18), (1, .int _), (2, .int _), (3, .int _)] [.int (-1)] _ _ _ _
    refine pm_e_ret pm_a68_33 rfl rfl rfl rfl rfl rfl rfl rfl ?_
    show pm_E _ _ _ 501 [(3, .int 0), (2, .ref 18), (1, .ref 0), (0, .retAddr 0)] [.int (-1), .int (-1)] _ _ _ _
    refine pm_e_ict pm_a0_501 rfl (by decide +kernel) ?_
    show pm_E _ _ _ 779 [(3, .int 0), (2, .ref 18), (1, .ref 0), (0, .retAddr 0)] [] _ _ _ _
    refine pm_e_inc (y := 6) pm_a0_779 rfl (by decide +kernel) (by decide +kernel) rfl ?_
    show pm_E _ _ _ 782 [(3, .int 6), (2, .ref 18), (1, .ref 0), (0, .retAddr 0)] [] _ _ _ _
    refine pm_e_goto pm_a0_782 rfl ?_
    show pm_E _ _ _ 18 [(3, .int 6), (2, .ref 18), (1, .ref 0), (0, .retAddr 0)] [] _ _ _ _
    refine pm_e_sim pm_a0_18 rfl ?_
    show pm_E _ _ _ 19 [(3, .int 6), (2, .ref 18), (1, .ref 0), (0, .retAddr 0)] [.int 6] _ _ _ _
    refine pm_e_sim pm_a0_19 rfl ?_
    show pm_E _ _ _ 20 [(3, .int 6), (2, .ref 18), (1, .ref 0), (0, .retAddr 0)] [.retAddr 0, .int 6] _ _ _ _
    refine pm_e_rd pm_a0_20 rfl rfl rfl ?_
    dsimp only
    refine pm_e_top (y := 6) (by decide +kernel) ?_
    show pm_E _ _ _ 21 [(3, .int 6), (2, .ref 18), (1, .ref 0), (0, .retAddr 0)] [.int 6, .int 6] _ _ _ _
    refine pm_e_sim pm_a0_21 rfl ?_
    refine pm_e_top (y := 6) (by decide +kernel) ?_
    show pm_E _ _ _ 23 [(3, .int 6), (2, .ref 18), (1, .ref 0), (0, .retAddr 0)] [.int 6, .int 6, .int 6] _ _ _ _
    refine pm_e_sim pm_a0_23 rfl ?_
    refine pm_e_top (y := 0) (by decide +kernel) ?_
    show pm_E _ _ _ 24 [(3, .int 6), (2, .ref 18), (1, .ref 0), (0, .retAddr 0)] [.int 0, .int 6] _ _ _ _
    refine pm_e_ict pm_a0_24 rfl (by decide +kernel) ?_
    show pm_E _ _ _ 785 [(3, .int 6), (2, .ref 18), (1, .ref 0), (0, .retAddr 0)] [] _ _ _ _
    refine pm_e_sim pm_a0_785 rfl ?_
    refine pm_e_top (y := 1) (by decide +kernel) ?_
    show pm_E _ _ _ 786 [(3, .int 6), (2, .ref 18), (1, .ref 0), (0, .retAddr 0)] [.int 1] _ _ _ _
    refine pm_e_ret pm_a0_786 rfl rfl rfl rfl rfl rfl rfl rfl ?_
    exact hQ _ _ _ (by decide +kernel) (by decide +kernel)
set_option maxHeartbeats 40000000 in
set_option maxRecDepth 200000 in
theorem pm_op12 (xs : Nat → Int32) {Q : Option Value → List va_E → Nat → Nat → Prop} (hQ : ∀ ph c n, c ≤ 600000 → n ≤ 7302250 → Q (some (.int 1)) ph c n) : pm_E (some (6, xs)) 11 pm_mm0 33 pm_L0 [.int (nI 12)] pm_H0 50 194358 Q := by
  refine pm_e_top (y := 12) (by decide +kernel) ?_
  rcases (show (xs 1).toInt = 0 ∨ (xs 1).toInt = 1 ∨ ((xs 1).toInt ≠ 0 ∧ (xs 1).toInt ≠ 1) by omega) with h1 | h1 | h1
  · have e1 : xs 1 = 0 := Int32.toInt_inj.mp (by rw [h1]; decide +kernel)
    refine pm_e_tsi (t := 506) pm_a0_33 rfl (by decide +kernel) ?_
    show pm_E _ _ _ 506 [(3, .int 0), (2, .ref 18), (1, .ref 0), (0, .retAddr 0)] [] _ _ _ _
    refine pm_e_sim pm_a0_506 rfl ?_
    show pm_E _ _ _ 507 [(3, .int 0), (2, .ref 18), (1, .ref 0), (0, .retAddr 0)] [.ref 0] _ _ _ _
    refine pm_e_sim pm_a0_507 rfl ?_
    show pm_E _ _ _ 508 [(3, .int 0), (2, .ref 18), (1, .ref 0), (0, .retAddr 0)] [.retAddr 0, .ref 0] _ _ _ _
    refine pm_e_sim pm_a0_508 rfl ?_
    show pm_E _ _ _ 509 [(3, .int 0), (2, .ref 18), (1, .ref 0), (0, .retAddr 0)] [.int 0, .retAddr 0, .ref 0] _ _ _ _
    refine pm_e_sim pm_a0_509 rfl ?_
    refine pm_e_top (y := 1) (by decide +kernel) ?_
    show pm_E _ _ _ 510 [(3, .int 0), (2, .ref 18), (1, .ref 0), (0, .retAddr 0)] [.int 1, .int 0, .retAddr 0, .ref 0] _ _ _ _
    refine pm_e_sim pm_a0_510 rfl ?_
    refine pm_e_top (y := 1) (by decide +kernel) ?_
    show pm_E _ _ _ 511 [(3, .int 0), (2, .ref 18), (1, .ref 0), (0, .retAddr 0)] [.int 1, .retAddr 0, .ref 0] _ _ _ _
    refine pm_e_sldc (j := 1) (e := e1) pm_a0_511 (by decide +kernel) ?_
    show pm_E _ _ _ 512 [(3, .int 0), (2, .ref 18), (1, .ref 0), (0, .retAddr 0)] [.int 0, .ref 0] _ _ _ _
    refine pm_e_call (T2 := pm_mm34) pm_a0_512 rfl rfl rfl rfl rfl rfl rfl rfl rfl ?_
    show pm_E _ _ _ 0 [(0, .ref 0), (1, .int 0)] [] _ _ _ _
    refine pm_e_sim pm_a34_0 rfl ?_
    show pm_E _ _ _ 1 [(0, .ref 0), (1, .int 0)] [.int 0] _ _ _ _
    refine pm_e_tsi (t := 28) pm_a34_1 rfl (by decide +kernel) ?_
    show pm_E _ _ _ 28 [(0, .ref 0), (1, .int 0)] [] _ _ _ _
    refine pm_e_sim pm_a34_28 rfl ?_
    show pm_E _ _ _ 29 [(0, .ref 0), (1, .int 0)] [.ref 0] _ _ _ _
    refine pm_e_rd pm_a34_29 rfl rfl rfl ?_
    show pm_E _ _ _ 32 [(0, .ref 0), (1, .int 0)] [.int 0] _ _ _ _
    refine pm_e_ret pm_a34_32 rfl rfl rfl rfl rfl rfl rfl rfl ?_
    show pm_E _ _ _ 515 [(3, .int 0), (2, .ref 18), (1, .ref 0), (0, .retAddr 0)] [.int 0] _ _ _ _
    refine pm_e_sim pm_a0_515 rfl ?_
    show pm_E _ _ _ 516 [(3, .int 0), (2, .ref 18), (1, .ref 0), (0, .retAddr 0)] [.ref 18, .int 0] _ _ _ _
    refine pm_e_sim pm_a0_516 rfl ?_
    show pm_E _ _ _ 517 [(3, .int 0), (2, .ref 18), (1, .ref 0), (0, .retAddr 0)] [.retAddr 0, .ref 18, .int 0] _ _ _ _
    refine pm_e_sim pm_a0_517 rfl ?_
    show pm_E _ _ _ 518 [(3, .int 0), (2, .ref 18), (1, .ref 0), (0, .retAddr 0)] [.int 0, .retAddr 0, .ref 18, .int 0] _ _ _ _
    refine pm_e_sim pm_a0_518 rfl ?_
    refine pm_e_top (y := 1) (by decide +kernel) ?_
    show pm_E _ _ _ 519 [(3, .int 0), (2, .ref 18), (1, .ref 0), (0, .retAddr 0)] [.int 1, .int 0, .retAddr 0, .ref 18, .int 0] _ _ _ _
    refine pm_e_sim pm_a0_519 rfl ?_
    refine pm_e_top (y := 1) (by decide +kernel) ?_
    show pm_E _ _ _ 520 [(3, .int 0), (2, .ref 18), (1, .ref 0), (0, .retAddr 0)] [.int 1, .retAddr 0, .ref 18, .int 0] _ _ _ _
    refine pm_e_sldc (j := 1) (e := e1) pm_a0_520 (by decide +kernel) ?_
    show pm_E _ _ _ 521 [(3, .int 0), (2, .ref 18), (1, .ref 0), (0, .retAddr 0)] [.int 0, .ref 18, .int 0] _ _ _ _
    refine pm_e_call (T2 := pm_mm69) pm_a0_521 rfl rfl rfl rfl rfl rfl rfl rfl rfl ?_
    show pm_E _ _ _ 0 [(0, .ref 18), (1, .int 0)] [] _ _ _ _
    refine pm_e_sim pm_a69_0 rfl ?_
    show pm_E _ _ _ 1 [(0, .ref 18), (1, .int 0)] [.int 0] _ _ _ _
    refine pm_e_iff pm_a69_1 rfl (by decide +kernel) ?_
    show pm_E _ _ _ 4 [(0, .ref 18), (1, .int 0)] [] _ _ _ _
    refine pm_e_sim pm_a69_4 rfl ?_
    show pm_E _ _ _ 5 [(0, .ref 18), (1, .int 0)] [.ref 18] _ _ _ _
    refine pm_e_rd pm_a69_5 rfl rfl rfl ?_
    show pm_E _ _ _ 8 [(0, .ref 18), (1, .int 0)] [.int 0] _ _ _ _
    refine pm_e_goto pm_a69_8 rfl ?_
    show pm_E _ _ _ 24 [(0, .ref 18), (1, .int 0)] [.int 0] _ _ _ _
    refine pm_e_ret pm_a69_24 rfl rfl rfl rfl rfl rfl rfl rfl ?_
    show pm_E _ _ _ 524 [(3, .int 0), (2, .ref 18), (1, .ref 0), (0, .retAddr 0)] [.int 0, .int 0] _ _ _ _
    refine pm_e_ict pm_a0_524 rfl (by decide +kernel) ?_
    show pm_E _ _ _ 779 [(3, .int 0), (2, .ref 18), (1, .ref 0), (0, .retAddr 0)] [] _ _ _ _
    refine pm_e_inc (y := 6) pm_a0_779 rfl (by decide +kernel) (by decide +kernel) rfl ?_
    show pm_E _ _ _ 782 [(3, .int 6), (2, .ref 18), (1, .ref 0), (0, .retAddr 0)] [] _ _ _ _
    refine pm_e_goto pm_a0_782 rfl ?_
    show pm_E _ _ _ 18 [(3, .int 6), (2, .ref 18), (1, .ref 0), (0, .retAddr 0)] [] _ _ _ _
    refine pm_e_sim pm_a0_18 rfl ?_
    show pm_E _ _ _ 19 [(3, .int 6), (2, .ref 18), (1, .ref 0), (0, .retAddr 0)] [.int 6] _ _ _ _
    refine pm_e_sim pm_a0_19 rfl ?_
    show pm_E _ _ _ 20 [(3, .int 6), (2, .ref 18), (1, .ref 0), (0, .retAddr 0)] [.retAddr 0, .int 6] _ _ _ _
    refine pm_e_rd pm_a0_20 rfl rfl rfl ?_
    dsimp only
    refine pm_e_top (y := 6) (by decide +kernel) ?_
    show pm_E _ _ _ 21 [(3, .int 6), (2, .ref 18), (1, .ref 0), (0, .retAddr 0)] [.int 6, .int 6] _ _ _ _
    refine pm_e_sim pm_a0_21 rfl ?_
    refine pm_e_top (y := 6) (by decide +kernel) ?_
    show pm_E _ _ _ 23 [(3, .int 6), (2, .ref 18), (1, .ref 0), (0, .retAddr 0)] [.int 6, .int 6, .int 6] _ _ _ _
    refine pm_e_sim pm_a0_23 rfl ?_
    refine pm_e_top (y := 0) (by decide +kernel) ?_
    show pm_E _ _ _ 24 [(3, .int 6), (2, .ref 18), (1, .ref 0), (0, .retAddr 0)] [.int 0, .int 6] _ _ _ _
    refine pm_e_ict pm_a0_24 rfl (by decide +kernel) ?_
    show pm_E _ _ _ 785 [(3, .int 6), (2, .ref 18), (1, .ref 0), (0, .retAddr 0)] [] _ _ _ _
    refine pm_e_sim pm_a0_785 rfl ?_
    refine pm_e_top (y := 1) (by decide +kernel) ?_
    show pm_E _ _ _ 786 [(3, .int 6), (2, .ref 18), (1, .ref 0), (0, .retAddr 0)] [.int 1] _ _ _ _
    refine pm_e_ret pm_a0_786 rfl rfl rfl rfl rfl rfl rfl rfl ?_
    exact hQ _ _ _ (by decide +kernel) (by decide +kernel)
  · have e1 : xs 1 = 1 := Int32.toInt_inj.mp (by rw [h1]; decide +kernel)
    refine pm_e_tsi (t := 506) pm_a0_33 rfl (by decide +kernel) ?_
    show pm_E _ _ _ 506 [(3, .int 0), (2, .ref 18), (1, .ref 0), (0, .retAddr 0)] [] _ _ _ _
    refine pm_e_sim pm_a0_506 rfl ?_
    show pm_E _ _ _ 507 [(3, .int 0), (2, .ref 18), (1, .ref 0), (0, .retAddr 0)] [.ref 0] _ _ _ _
    refine pm_e_sim pm_a0_507 rfl ?_
    show pm_E _ _ _ 508 [(3, .int 0), (2, .ref 18), (1, .ref 0), (0, .retAddr 0)] [.retAddr 0, .ref 0] _ _ _ _
    refine pm_e_sim pm_a0_508 rfl ?_
    show pm_E _ _ _ 509 [(3, .int 0), (2, .ref 18), (1, .ref 0), (0, .retAddr 0)] [.int 0, .retAddr 0, .ref 0] _ _ _ _
    refine pm_e_sim pm_a0_509 rfl ?_
    refine pm_e_top (y := 1) (by decide +kernel) ?_
    show pm_E _ _ _ 510 [(3, .int 0), (2, .ref 18), (1, .ref 0), (0, .retAddr 0)] [.int 1, .int 0, .retAddr 0, .ref 0] _ _ _ _
    refine pm_e_sim pm_a0_510 rfl ?_
    refine pm_e_top (y := 1) (by decide +kernel) ?_
    show pm_E _ _ _ 511 [(3, .int 0), (2, .ref 18), (1, .ref 0), (0, .retAddr 0)] [.int 1, .retAddr 0, .ref 0] _ _ _ _
    refine pm_e_sldc (j := 1) (e := e1) pm_a0_511 (by decide +kernel) ?_
    show pm_E _ _ _ 512 [(3, .int 0), (2, .ref 18), (1, .ref 0), (0, .retAddr 0)] [.int 1, .ref 0] _ _ _ _
    refine pm_e_call (T2 := pm_mm34) pm_a0_512 rfl rfl rfl rfl rfl rfl rfl rfl rfl ?_
    show pm_E _ _ _ 0 [(0, .ref 0), (1, .int 1)] [] _ _ _ _
    refine pm_e_sim pm_a34_0 rfl ?_
    show pm_E _ _ _ 1 [(0, .ref 0), (1, .int 1)] [.int 1] _ _ _ _
    refine pm_e_tsi (t := 33) pm_a34_1 rfl (by decide +kernel) ?_
    show pm_E _ _ _ 33 [(0, .ref 0), (1, .int 1)] [] _ _ _ _
    refine pm_e_sim pm_a34_33 rfl ?_
    show pm_E _ _ _ 34 [(0, .ref 0), (1, .int 1)] [.ref 0] _ _ _ _
    refine pm_e_rd pm_a34_34 rfl rfl rfl ?_
    show pm_E _ _ _ 37 [(0, .ref 0), (1, .int 1)] [.int 0] _ _ _ _
    refine pm_e_ret pm_a34_37 rfl rfl rfl rfl rfl rfl rfl rfl ?_
    show pm_E _ _ _ 515 [(3, .int 0), (2, .ref 18), (1, .ref 0), (0, .retAddr 0)] [.int 0] _ _ _ _
    refine pm_e_sim pm_a0_515 rfl ?_
    show pm_E _ _ _ 516 [(3, .int 0), (2, .ref 18), (1, .ref 0), (0, .retAddr 0)] [.ref 18, .int 0] _ _ _ _
    refine pm_e_sim pm_a0_516 rfl ?_
    show pm_E _ _ _ 517 [(3, .int 0), (2, .ref 18), (1, .ref 0), (0, .retAddr 0)] [.retAddr 0, .ref 18, .int 0] _ _ _ _
    refine pm_e_sim pm_a0_517 rfl ?_
    show pm_E _ _ _ 518 [(3, .int 0), (2, .ref 18), (1, .ref 0), (0, .retAddr 0)] [.int 0, .retAddr 0, .ref 18, .int 0] _ _ _ _
    refine pm_e_sim pm_a0_518 rfl ?_
    refine pm_e_top (y := 1) (by decide +kernel) ?_
    show pm_E _ _ _ 519 [(3, .int 0), (2, .ref 18), (1, .ref 0), (0, .retAddr 0)] [.int 1, .int 0, .retAddr 0, .ref 18, .int 0] _ _ _ _
    refine pm_e_sim pm_a0_519 rfl ?_
    refine pm_e_top (y := 1) (by decide +kernel) ?_
    show pm_E _ _ _ 520 [(3, .int 0), (2, .ref 18), (1, .ref 0), (0, .retAddr 0)] [.int 1, .retAddr 0, .ref 18, .int 0] _ _ _ _
    refine pm_e_sldc (j := 1) (e := e1) pm_a0_520 (by decide +kernel) ?_
    show pm_E _ _ _ 521 [(3, .int 0), (2, .ref 18), (1, .ref 0), (0, .retAddr 0)] [.int 1, .ref 18, .int 0] _ _ _ _
    refine pm_e_call (T2 := pm_mm69) pm_a0_521 rfl rfl rfl rfl rfl rfl rfl rfl rfl ?_
    show pm_E _ _ _ 0 [(0, .ref 18), (1, .int 1)] [] _ _ _ _
    refine pm_e_sim pm_a69_0 rfl ?_
    show pm_E _ _ _ 1 [(0, .ref 18), (1, .int 1)] [.int 1] _ _ _ _
    refine pm_e_ift pm_a69_1 rfl (by decide +kernel) ?_
    show pm_E _ _ _ 11 [(0, .ref 18), (1, .int 1)] [] _ _ _ _
    refine pm_e_sim pm_a69_11 rfl ?_
    show pm_E _ _ _ 12 [(0, .ref 18), (1, .int 1)] [.int 1] _ _ _ _
    refine pm_e_sim pm_a69_12 rfl ?_
    refine pm_e_top (y := 1) (by decide +kernel) ?_
    show pm_E _ _ _ 13 [(0, .ref 18), (1, .int 1)] [.int 1, .int 1] _ _ _ _
    refine pm_e_icf pm_a69_13 rfl (by decide +kernel) ?_
    show pm_E _ _ _ 16 [(0, .ref 18), (1, .int 1)] [] _ _ _ _
    refine pm_e_sim pm_a69_16 rfl ?_
    show pm_E _ _ _ 17 [(0, .ref 18), (1, .int 1)] [.ref 18] _ _ _ _
    refine pm_e_rd pm_a69_17 rfl rfl rfl ?_
    show pm_E _ _ _ 20 [(0, .ref 18), (1, .int 1)] [.int 0] _ _ _ _
    refine pm_e_goto pm_a69_20 rfl ?_
    show pm_E _ _ _ 24 [(0, .ref 18), (1, .int 1)] [.int 0] _ _ _ _
    refine pm_e_ret pm_a69_24 rfl rfl rfl rfl rfl rfl rfl rfl ?_
    show pm_E _ _ _ 524 [(3, .int 0), (2, .ref 18), (1, .ref 0), (0, .retAddr 0)] [.int 0, .int 0] _ _ _ _
    refine pm_e_ict pm_a0_524 rfl (by decide +kernel) ?_
    show pm_E _ _ _ 779 [(3, .int 0), (2, .ref 18), (1, .ref 0), (0, .retAddr 0)] [] _ _ _ _
    refine pm_e_inc (y := 6) pm_a0_779 rfl (by decide +kernel) (by decide +kernel) rfl ?_
    show pm_E _ _ _ 782 [(3, .int 6), (2, .ref 18), (1, .ref 0), (0, .retAddr 0)] [] _ _ _ _
    refine pm_e_goto pm_a0_782 rfl ?_
    show pm_E _ _ _ 18 [(3, .int 6), (2, .ref 18), (1, .ref 0), (0, .retAddr 0)] [] _ _ _ _
    refine pm_e_sim pm_a0_18 rfl ?_
    show pm_E _ _ _ 19 [(3, .int 6), (2, .ref 18), (1, .ref 0), (0, .retAddr 0)] [.int 6] _ _ _ _
    refine pm_e_sim pm_a0_19 rfl ?_
    show pm_E _ _ _ 20 [(3, .int 6), (2, .ref 18), (1, .ref 0), (0, .retAddr 0)] [.retAddr 0, .int 6] _ _ _ _
    refine pm_e_rd pm_a0_20 rfl rfl rfl ?_
    dsimp only
    refine pm_e_top (y := 6) (by decide +kernel) ?_
    show pm_E _ _ _ 21 [(3, .int 6), (2, .ref 18), (1, .ref 0), (0, .retAddr 0)] [.int 6, .int 6] _ _ _ _
    refine pm_e_sim pm_a0_21 rfl ?_
    refine pm_e_top (y := 6) (by decide +kernel) ?_
    show pm_E _ _ _ 23 [(3, .int 6), (2, .ref 18), (1, .ref 0), (0, .retAddr 0)] [.int 6, .int 6, .int 6] _ _ _ _
    refine pm_e_sim pm_a0_23 rfl ?_
    refine pm_e_top (y := 0) (by decide +kernel) ?_
    show pm_E _ _ _ 24 [(3, .int 6), (2, .ref 18), (1, .ref 0), (0, .retAddr 0)] [.int 0, .int 6] _ _ _ _
    refine pm_e_ict pm_a0_24 rfl (by decide +kernel) ?_
    show pm_E _ _ _ 785 [(3, .int 6), (2, .ref 18), (1, .ref 0), (0, .retAddr 0)] [] _ _ _ _
    refine pm_e_sim pm_a0_785 rfl ?_
    refine pm_e_top (y := 1) (by decide +kernel) ?_
    show pm_E _ _ _ 786 [(3, .int 6), (2, .ref 18), (1, .ref 0), (0, .retAddr 0)] [.int 1] _ _ _ _
    refine pm_e_ret pm_a0_786 rfl rfl rfl rfl rfl rfl rfl rfl ?_
    exact hQ _ _ _ (by decide +kernel) (by decide +kernel)
  · obtain ⟨h1, h2⟩ := h1
    refine pm_e_tsi (t := 506) pm_a0_33 rfl (by decide +kernel) ?_
    show pm_E _ _ _ 506 [(3, .int 0), (2, .ref 18), (1, .ref 0), (0, .retAddr 0)] [] _ _ _ _
    refine pm_e_sim pm_a0_506 rfl ?_
    show pm_E _ _ _ 507 [(3, .int 0), (2, .ref 18), (1, .ref 0), (0, .retAddr 0)] [.ref 0] _ _ _ _
    refine pm_e_sim pm_a0_507 rfl ?_
    show pm_E _ _ _ 508 [(3, .int 0), (2, .ref 18), (1, .ref 0), (0, .retAddr 0)] [.retAddr 0, .ref 0] _ _ _ _
    refine pm_e_sim pm_a0_508 rfl ?_
    show pm_E _ _ _ 509 [(3, .int 0), (2, .ref 18), (1, .ref 0), (0, .retAddr 0)] [.int 0, .retAddr 0, .ref 0] _ _ _ _
    refine pm_e_sim pm_a0_509 rfl ?_
    refine pm_e_top (y := 1) (by decide +kernel) ?_
    show pm_E _ _ _ 510 [(3, .int 0), (2, .ref 18), (1, .ref 0), (0, .retAddr 0)] [.int 1, .int 0, .retAddr 0, .ref 0] _ _ _ _
    refine pm_e_sim pm_a0_510 rfl ?_
    refine pm_e_top (y := 1) (by decide +kernel) ?_
    show pm_E _ _ _ 511 [(3, .int 0), (2, .ref 18), (1, .ref 0), (0, .retAddr 0)] [.int 1, .retAddr 0, .ref 0] _ _ _ _
    refine pm_e_sld (j := 1) pm_a0_511 (by decide +kernel) ?_
    show pm_E _ _ _ 512 [(3, .int 0), (2, .ref 18), (1, .ref 0), (0, .retAddr 0)] [.int _, .ref 0] _ _ _ _
    refine pm_e_call (T2 := pm_mm34) pm_a0_512 rfl rfl rfl rfl rfl rfl rfl rfl rfl ?_
    show pm_E _ _ _ 0 [(0, .ref 0), (1, .int _)] [] _ _ _ _
    refine pm_e_sim pm_a34_0 rfl ?_
    show pm_E _ _ _ 1 [(0, .ref 0), (1, .int _)] [.int _] _ _ _ _
    refine pm_e_lko (t := 38) pm_a34_1 (by decide +kernel) (by show Op.lookupswitch.offset [(0, 27), (1, 32)] _ _ = _; rw [Op.lookupswitch.offset_cons, if_neg (by omega), Op.lookupswitch.offset_cons, if_neg (by omega)]) rfl ?_
    show pm_E _ _ _ 38 [(0, .ref 0), (1, .int _)] [] _ _ _ _
    refine pm_e_sim pm_a34_38 rfl ?_
    refine pm_e_top (y := (-1)) (by decide +kernel) ?_
    show pm_E _ _ _ 39 [(0, .ref 0), (1, .int _)] [.int (-1)] _ _ _ _
    refine pm_e_ret pm_a34_39 rfl rfl rfl rfl rfl rfl rfl rfl ?_
    show pm_E _ _ _ 515 [(3, .int 0), (2, .ref 18), (1, .ref 0), (0, .retAddr 0)] [.int (-1)] _ _ _ _
    refine pm_e_sim pm_a0_515 rfl ?_
    show pm_E _ _ _ 516 [(3, .int 0), (2, .ref 18), (1, .ref 0), (0, .retAddr 0)] [.ref 18, .int (-1)] _ _ _ _
    refine pm_e_sim pm_a0_516 rfl ?_
    show pm_E _ _ _ 517 [(3, .int 0), (2, .ref 18), (1, .ref 0), (0, .retAddr 0)] [.retAddr 0, .ref 18, .int (-1)] _ _ _ _
    refine pm_e_sim pm_a0_517 rfl ?_
    show pm_E _ _ _ 518 [(3, .int 0), (2, .ref 18), (1, .ref 0), (0, .retAddr 0)] [.int 0, .retAddr 0, .ref 18, .int (-1)] _ _ _ _
    refine pm_e_sim pm_a0_518 rfl ?_
    refine pm_e_top (y := 1) (by decide +kernel) ?_
    show pm_E _ _ _ 519 [(3, .int 0), (2, .ref 18), (1, .ref 0), (0, .retAddr 0)] [.int 1, .int 0, .retAddr 0, .ref 18, .int (-1)] _ _ _ _
    refine pm_e_sim pm_a0_519 rfl ?_
    refine pm_e_top (y := 1) (by decide +kernel) ?_
    show pm_E _ _ _ 520 [(3, .int 0), (2, .ref 18), (1, .ref 0), (0, .retAddr 0)] [.int 1, .retAddr 0, .ref 18, .int (-1)] _ _ _ _
    refine pm_e_sld (j := 1) pm_a0_520 (by decide +kernel) ?_
    show pm_E _ _ _ 521 [(3, .int 0), (2, .ref 18), (1, .ref 0), (0, .retAddr 0)] [.int _, .ref 18, .int (-1)] _ _ _ _
    refine pm_e_call (T2 := pm_mm69) pm_a0_521 rfl rfl rfl rfl rfl rfl rfl rfl rfl ?_
    show pm_E _ _ _ 0 [(0, .ref 18), (1, .int _)] [] _ _ _ _
    refine pm_e_sim pm_a69_0 rfl ?_
    show pm_E _ _ _ 1 [(0, .ref 18), (1, .int _)] [.int _] _ _ _ _
    refine pm_e_ift pm_a69_1 rfl (pm_z_ne_t 0 (by decide +kernel) (by omega)) ?_
    show pm_E _ _ _ 11 [(0, .ref 18), (1, .int _)] [] _ _ _ _
    refine pm_e_sim pm_a69_11 rfl ?_
    show pm_E _ _ _ 12 [(0, .ref 18), (1, .int _)] [.int _] _ _ _ _
    refine pm_e_sim pm_a69_12 rfl ?_
    refine pm_e_top (y := 1) (by decide +kernel) ?_
    show pm_E _ _ _ 13 [(0, .ref 18), (1, .int _)] [.int 1, .int _] _ _ _ _
    refine pm_e_ict pm_a69_13 rfl (pm_z_ne_t 1 (by decide +kernel) (by omega)) ?_
    show pm_E _ _ _ 23 [(0, .ref 18), (1, .int _)] [] _ _ _ _
    refine pm_e_sim pm_a69_23 rfl ?_
    refine pm_e_top (y := (-1)) (by decide +kernel) ?_
    show pm_E _ _ _ 24 [(0, .ref 18), (1, .int _)] [.int (-1)] _ _ _ _
    refine pm_e_ret pm_a69_24 rfl rfl rfl rfl rfl rfl rfl rfl ?_
    show pm_E _ _ _ 524 [(3, .int 0), (2, .ref 18), (1, .ref 0), (0, .retAddr 0)] [.int (-1), .int (-1)] _ _ _ _
    refine pm_e_ict pm_a0_524 rfl (by decide +kernel) ?_
    show pm_E _ _ _ 779 [(3, .int 0), (2, .ref 18), (1, .ref 0), (0, .retAddr 0)] [] _ _ _ _
    refine pm_e_inc (y := 6) pm_a0_779 rfl (by decide +kernel) (by decide +kernel) rfl ?_
    show pm_E _ _ _ 782 [(3, .int 6), (2, .ref 18), (1, .ref 0), (0, .retAddr 0)] [] _ _ _ _
    refine pm_e_goto pm_a0_782 rfl ?_
    show pm_E _ _ _ 18 [(3, .int 6), (2, .ref 18), (1, .ref 0), (0, .retAddr 0)] [] _ _ _ _
    refine pm_e_sim pm_a0_18 rfl ?_
    show pm_E _ _ _ 19 [(3, .int 6), (2, .ref 18), (1, .ref 0), (0, .retAddr 0)] [.int 6] _ _ _ _
    refine pm_e_sim pm_a0_19 rfl ?_
    show pm_E _ _ _ 20 [(3, .int 6), (2, .ref 18), (1, .ref 0), (0, .retAddr 0)] [.retAddr 0, .int 6] _ _ _ _
    refine pm_e_rd pm_a0_20 rfl rfl rfl ?_
    dsimp only
    refine pm_e_top (y := 6) (by decide +kernel) ?_
    show pm_E _ _ _ 21 [(3, .int 6), (2, .ref 18), (1, .ref 0), (0, .retAddr 0)] [.int 6, .int 6] _ _ _ _
    refine pm_e_sim pm_a0_21 rfl ?_
    refine pm_e_top (y := 6) (by decide +kernel) ?_
    show pm_E _ _ _ 23 [(3, .int 6), (2, .ref 18), (1, .ref 0), (0, .retAddr 0)] [.int 6, .int 6, .int 6] _ _ _ _
    refine pm_e_sim pm_a0_23 rfl ?_
    refine pm_e_top (y := 0) (by decide +kernel) ?_
    show pm_E _ _ _ 24 [(3, .int 6), (2, .ref 18), (1, .ref 0), (0, .retAddr 0)] [.int 0, .int 6] _ _ _ _
    refine pm_e_ict pm_a0_24 rfl (by decide +kernel) ?_
    show pm_E _ _ _ 785 [(3, .int 6), (2, .ref 18), (1, .ref 0), (0, .retAddr 0)] [] _ _ _ _
    refine pm_e_sim pm_a0_785 rfl ?_
    refine pm_e_top (y := 1) (by decide +kernel) ?_
    show pm_E _ _ _ 786 [(3, .int 6), (2, .ref 18), (1, .ref 0), (0, .retAddr 0)] [.int 1] _ _ _ _
    refine pm_e_ret pm_a0_786 rfl rfl rfl rfl rfl rfl rfl rfl ?_
    exact hQ _ _ _ (by decide +kernel) (by decide +kernel)
set_option maxHeartbeats 40000000 in
set_option maxRecDepth 200000 in
theorem pm_op13 (xs : Nat → Int32) {Q : Option Value → List va_E → Nat → Nat → Prop} (hQ : ∀ ph c n, c ≤ 600000 → n ≤ 7302250 → Q (some (.int 1)) ph c n) : pm_E (some (6, xs)) 11 pm_mm0 33 pm_L0 [.int (nI 13)] pm_H0 50 194358 Q := by
  refine pm_e_top (y := 13) (by decide +kernel) ?_
  rcases (show (xs 1).toInt < 0 ∨ (xs 1).toInt = 0 ∨ 0 < (xs 1).toInt by omega) with h1 | h1 | h1
  · refine pm_e_tsi (t := 529) pm_a0_33 rfl (by decide +kernel) ?_
    show pm_E _ _ _ 529 [(3, .int 0), (2, .ref 18), (1, .ref 0), (0, .retAddr 0)] [] _ _ _ _
    refine pm_e_sim pm_a0_529 rfl ?_
    show pm_E _ _ _ 530 [(3, .int 0), (2, .ref 18), (1, .ref 0), (0, .retAddr 0)] [.ref 0] _ _ _ _
    refine pm_e_sim pm_a0_530 rfl ?_
    show pm_E _ _ _ 531 [(3, .int 0), (2, .ref 18), (1, .ref 0), (0, .retAddr 0)] [.retAddr 0, .ref 0] _ _ _ _
    refine pm_e_sim pm_a0_531 rfl ?_
    show pm_E _ _ _ 532 [(3, .int 0), (2, .ref 18), (1, .ref 0), (0, .retAddr 0)] [.int 0, .retAddr 0, .ref 0] _ _ _ _
    refine pm_e_sim pm_a0_532 rfl ?_
    refine pm_e_top (y := 1) (by decide +kernel) ?_
    show pm_E _ _ _ 533 [(3, .int 0), (2, .ref 18), (1, .ref 0), (0, .retAddr 0)] [.int 1, .int 0, .retAddr 0, .ref 0] _ _ _ _
    refine pm_e_sim pm_a0_533 rfl ?_
    refine pm_e_top (y := 1) (by decide +kernel) ?_
    show pm_E _ _ _ 534 [(3, .int 0), (2, .ref 18), (1, .ref 0), (0, .retAddr 0)] [.int 1, .retAddr 0, .ref 0] _ _ _ _
    refine pm_e_sld (j := 1) pm_a0_534 (by decide +kernel) ?_
    show pm_E _ _ _ 535 [(3, .int 0), (2, .ref 18), (1, .ref 0), (0, .retAddr 0)] [.int _, .ref 0] _ _ _ _
    refine pm_e_sim pm_a0_535 rfl ?_
    show pm_E _ _ _ 536 [(3, .int 0), (2, .ref 18), (1, .ref 0), (0, .retAddr 0)] [.retAddr 0, .int _, .ref 0] _ _ _ _
    refine pm_e_sim pm_a0_536 rfl ?_
    show pm_E _ _ _ 537 [(3, .int 0), (2, .ref 18), (1, .ref 0), (0, .retAddr 0)] [.int 0, .retAddr 0, .int _, .ref 0] _ _ _ _
    refine pm_e_sim pm_a0_537 rfl ?_
    refine pm_e_top (y := 2) (by decide +kernel) ?_
    show pm_E _ _ _ 538 [(3, .int 0), (2, .ref 18), (1, .ref 0), (0, .retAddr 0)] [.int 2, .int 0, .retAddr 0, .int _, .ref 0] _ _ _ _
    refine pm_e_sim pm_a0_538 rfl ?_
    refine pm_e_top (y := 2) (by decide +kernel) ?_
    show pm_E _ _ _ 539 [(3, .int 0), (2, .ref 18), (1, .ref 0), (0, .retAddr 0)] [.int 2, .retAddr 0, .int _, .ref 0] _ _ _ _
    refine pm_e_sld (j := 2) pm_a0_539 (by decide +kernel) ?_
    show pm_E _ _ _ 540 [(3, .int 0), (2, .ref 18), (1, .ref 0), (0, .retAddr 0)] [.int _, .int _, .ref 0] _ _ _ _
    refine pm_e_call (T2 := pm_mm35) pm_a0_540 rfl rfl rfl rfl rfl rfl rfl rfl rfl ?_
    show pm_E _ _ _ 0 [(0, .ref 0), (1, .int _), (2, .int _)] [] _ _ _ _
    refine pm_e_sim pm_a35_0 rfl ?_
    show pm_E _ _ _ 1 [(0, .ref 0), (1, .int _), (2, .int _)] [.ref 0] _ _ _ _
    refine pm_e_sim pm_a35_1 rfl ?_
    show pm_E _ _ _ 2 [(0, .ref 0), (1, .int _), (2, .int _)] [.int _, .ref 0] _ _ _ _
    refine pm_e_call (T2 := pm_mm26) pm_a35_2 rfl rfl rfl rfl rfl rfl rfl rfl rfl ?_
    show pm_E _ _ _ 0 [(0, .ref 0), (1, .int _)] [] _ _ _ _
    refine pm_e_sim pm_a26_0 rfl ?_
    show pm_E _ _ _ 1 [(0, .ref 0), (1, .int _)] [.int _] _ _ _ _
    refine pm_e_ift pm_a26_1 rfl (pm_z_lt_t 0 (by decide +kernel) (by omega)) ?_
    show pm_E _ _ _ 30 [(0, .ref 0), (1, .int _)] [] _ _ _ _
    refine pm_e_sim pm_a26_30 rfl ?_
    show pm_E _ _ _ 31 [(0, .ref 0), (1, .int _)] [.null] _ _ _ _
    refine pm_e_ret pm_a26_31 rfl rfl rfl rfl rfl rfl rfl rfl ?_
    show pm_E _ _ _ 5 [(0, .ref 0), (1, .int _), (2, .int _)] [.null] _ _ _ _
    refine pm_e_sim pm_a35_5 rfl ?_
    show pm_E _ _ _ 6 [(3, .null), (0, .ref 0), (1, .int _), (2, .int _)] [] _ _ _ _
    refine pm_e_sim pm_a35_6 rfl ?_
    show pm_E _ _ _ 7 [(3, .null), (0, .ref 0), (1, .int _), (2, .int _)] [.null] _ _ _ _
    refine pm_e_jmp (pc2 := 17) pm_a35_7 rfl rfl ?_
    show pm_E _ _ _ 17 [(3, .null), (0, .ref 0), (1, .int _), (2, .int _)] [] _ _ _ _
    refine pm_e_sim pm_a35_17 rfl ?_
    refine pm_e_top (y := (-1)) (by decide +kernel) ?_
    show pm_E _ _ _ 18 [(3, .null), (0, .ref 0), (1, .int _), (2, .int _)] [.int (-1)] _ _ _ _
    refine pm_e_goto pm_a35_18 rfl ?_
    show pm_E _ _ _ 30 [(3, .null), (0, .ref 0), (1, .int _), (2, .int _)] [.int (-1)] _ _ _ _
    refine pm_e_ret pm_a35_30 rfl rfl rfl rfl rfl rfl rfl rfl ?_
    show pm_E _ _ _ 543 [(3, .int 0), (2, .ref 18), (1, .ref 0), (0, .retAddr 0)] [.int (-1)] _ _ _ _
    refine pm_e_sim pm_a0_543 rfl ?_
    show pm_E _ _ _ 544 [(3, .int 0), (2, .ref 18), (1, .ref 0), (0, .retAddr 0)] [.ref 18, .int (-1)] _ _ _ _
    refine pm_e_sim pm_a0_544 rfl ?_
    show pm_E _ _ _ 545 [(3, .int 0), (2, .ref 18), (1, .ref 0), (0, .retAddr 0)] [.retAddr 0, .ref 18, .int (-1)] _ _ _ _
    refine pm_e_sim pm_a0_545 rfl ?_
    show pm_E _ _ _ 546 [(3, .int 0), (2, .ref 18), (1, .ref 0), (0, .retAddr 0)] [.int 0, .retAddr 0, .ref 18, .int (-1)] _ _ _ _
    refine pm_e_sim pm_a0_546 rfl ?_
    refine pm_e_top (y := 1) (by decide +kernel) ?_
    show pm_E _ _ _ 547 [(3, .int 0), (2, .ref 18), (1, .ref 0), (0, .retAddr 0)] [.int 1, .int 0, .retAddr 0, .ref 18, .int (-1)] _ _ _ _
    refine pm_e_sim pm_a0_547 rfl ?_
    refine pm_e_top (y := 1) (by decide +kernel) ?_
    show pm_E _ _ _ 548 [(3, .int 0), (2, .ref 18), (1, .ref 0), (0, .retAddr 0)] [.int 1, .retAddr 0, .ref 18, .int (-1)] _ _ _ _
    refine pm_e_sld (j := 1) pm_a0_548 (by decide +kernel) ?_
    show pm_E _ _ _ 549 [(3, .int 0), (2, .ref 18), (1, .ref 0), (0, .retAddr 0)] [.int _, .ref 18, .int (-1)] _ _ _ _
    refine pm_e_sim pm_a0_549 rfl ?_
    show pm_E _ _ _ 550 [(3, .int 0), (2, .ref 18), (1, .ref 0), (0, .retAddr 0)] [.retAddr 0, .int _, .ref 18, .int (-1)] _ _ _ _
    refine pm_e_sim pm_a0_550 rfl ?_
    show pm_E _ _ _ 551 [(3, .int 0), (2, .ref 18), (1, .ref 0), (0, .retAddr 0)] [.int 0, .retAddr 0, .int _, .ref 18, .int (-1)] _ _ _ _
    refine pm_e_sim pm_a0_551 rfl ?_
    refine pm_e_top (y := 2) (by decide +kernel) ?_
    show pm_E _ _ _ 552 [(3, .int 0), (2, .ref 18), (1, .ref 0), (0, .retAddr 0)] [.int 2, .int 0, .retAddr 0, .int _, .ref 18, .int (-1)] _ _ _ _
    refine pm_e_sim pm_a0_552 rfl ?_
    refine pm_e_top (y := 2) (by decide +kernel) ?_
    show pm_E _ _ _ 553 [(3, .int 0), (2, .ref 18), (1, .ref 0), (0, .retAddr 0)] [.int 2, .retAddr 0, .int _, .ref 18, .int (-1)] _ _ _ _
    refine pm_e_sld (j := 2) pm_a0_553 (by decide +kernel) ?_
    show pm_E _ _ _ 554 [(3, .int 0), (2, .ref 18), (1, .ref 0), (0, .retAddr 0)] [.int _, .int _, .ref 18, .int (-1)] _ _ _ _
    refine pm_e_call (T2 := pm_mm70) pm_a0_554 rfl rfl rfl rfl rfl rfl rfl rfl rfl ?_
    show pm_E _ _ _ 0 [(0, .ref 18), (1, .int _), (2, .int _)] [] _ _ _ _
    refine pm_e_sim pm_a70_0 rfl ?_
    show pm_E _ _ _ 1 [(0, .ref 18), (1, .int _), (2, .int _)] [.ref 18] _ _ _ _
    refine pm_e_sim pm_a70_1 rfl ?_
    show pm_E _ _ _ 2 [(0, .ref 18), (1, .int _), (2, .int _)] [.int _, .ref 18] _ _ _ _
    refine pm_e_call (T2 := pm_mm61) pm_a70_2 rfl rfl rfl rfl rfl rfl rfl rfl rfl ?_
    show pm_E _ _ _ 0 [(0, .ref 18), (1, .int _)] [] _ _ _ _
    refine pm_e_sim pm_a61_0 rfl ?_
    show pm_E _ _ _ 1 [(0, .ref 18), (1, .int _)] [.int _] _ _ _ _
    refine pm_e_sim pm_a61_1 rfl ?_
    show pm_E _ _ _ 2 [(0, .ref 18), (1, .int _)] [.long _] _ _ _ _
    refine pm_e_sim pm_a61_2 rfl ?_
    show pm_E _ _ _ 3 [(0, .ref 18), (1, .int _)] [.long _, .long _] _ _ _ _
    refine pm_e_sim pm_a61_3 rfl ?_
    show pm_E _ _ _ 4 [(0, .ref 18), (1, .int _)] [.ref 18, .long _, .long _] _ _ _ _
    refine pm_e_rd pm_a61_4 rfl rfl rfl ?_
    show pm_E _ _ _ 7 [(0, .ref 18), (1, .int _)] [.int 0, .long _, .long _] _ _ _ _
    refine pm_e_sim pm_a61_7 rfl ?_
    refine pm_e_top (y := 1) (by decide +kernel) ?_
    show pm_E _ _ _ 8 [(0, .ref 18), (1, .int _)] [.int 1, .int 0, .long _, .long _] _ _ _ _
    refine pm_e_sim pm_a61_8 rfl ?_
    refine pm_e_top (y := (-1)) (by decide +kernel) ?_
    show pm_E _ _ _ 9 [(0, .ref 18), (1, .int _)] [.int (-1), .long _, .long _] _ _ _ _
    refine pm_e_sim pm_a61_9 rfl ?_
    show pm_E _ _ _ 10 [(0, .ref 18), (1, .int _)] [.long _, .long _, .long _] _ _ _ _
    refine pm_e_call (T2 := pm_mm50) pm_a61_10 rfl rfl rfl rfl rfl rfl rfl rfl rfl ?_
    show pm_E _ _ _ 0 [(0, .long _), (2, .long _), (4, .long _)] [] _ _ _ _
    refine pm_e_sim pm_a50_0 rfl ?_
    show pm_E _ _ _ 1 [(0, .long _), (2, .long _), (4, .long _)] [.long _] _ _ _ _
    refine pm_e_sim pm_a50_1 rfl ?_
    show pm_E _ _ _ 2 [(0, .long _), (2, .long _), (4, .long _)] [.long _, .long _] _ _ _ _
    refine pm_e_sim pm_a50_2 rfl ?_
    show pm_E _ _ _ 3 [(0, .long _), (2, .long _), (4, .long _)] [.int _] _ _ _ _
    refine pm_e_ift pm_a50_3 rfl (pm_zl_lt 0 (by decide +kernel) (by omega) (by decide +kernel)) ?_
    show pm_E _ _ _ 17 [(0, .long _), (2, .long _), (4, .long _)] [] _ _ _ _
    refine pm_e_sim pm_a50_17 rfl ?_
    refine pm_e_top (y := 0) (by decide +kernel) ?_
    show pm_E _ _ _ 18 [(0, .long _), (2, .long _), (4, .long _)] [.int 0] _ _ _ _
    refine pm_e_ret pm_a50_18 rfl rfl rfl rfl rfl rfl rfl rfl ?_
    show pm_E _ _ _ 13 [(0, .ref 18), (1, .int _)] [.int 0] _ _ _ _
    refine pm_e_ret pm_a61_13 rfl rfl rfl rfl rfl rfl rfl rfl ?_
    show pm_E _ _ _ 5 [(0, .ref 18), (1, .int _), (2, .int _)] [.int 0] _ _ _ _
    refine pm_e_ift pm_a70_5 rfl (by decide +kernel) ?_
    show pm_E _ _ _ 20 [(0, .ref 18), (1, .int _), (2, .int _)] [] _ _ _ _
    refine pm_e_sim pm_a70_20 rfl ?_
    refine pm_e_top (y := (-1)) (by decide +kernel) ?_
    show pm_E _ _ _ 21 [(0, .ref 18), (1, .int _), (2, .int _)] [.int (-1)] _ _ _ _
    refine pm_e_ret pm_a70_21 rfl rfl rfl rfl rfl rfl rfl rfl ?_
    show pm_E _ _ _ 557 [(3, .int 0), (2, .ref 18), (1, .ref 0), (0, .retAddr 0)] [.int (-1), .int (-1)] _ _ _ _
    refine pm_e_ict pm_a0_557 rfl (by decide +kernel) ?_
    show pm_E _ _ _ 779 [(3, .int 0), (2, .ref 18), (1, .ref 0), (0, .retAddr 0)] [] _ _ _ _
    refine pm_e_inc (y := 6) pm_a0_779 rfl (by decide +kernel) (by decide +kernel) rfl ?_
    show pm_E _ _ _ 782 [(3, .int 6), (2, .ref 18), (1, .ref 0), (0, .retAddr 0)] [] _ _ _ _
    refine pm_e_goto pm_a0_782 rfl ?_
    show pm_E _ _ _ 18 [(3, .int 6), (2, .ref 18), (1, .ref 0), (0, .retAddr 0)] [] _ _ _ _
    refine pm_e_sim pm_a0_18 rfl ?_
    show pm_E _ _ _ 19 [(3, .int 6), (2, .ref 18), (1, .ref 0), (0, .retAddr 0)] [.int 6] _ _ _ _
    refine pm_e_sim pm_a0_19 rfl ?_
    show pm_E _ _ _ 20 [(3, .int 6), (2, .ref 18), (1, .ref 0), (0, .retAddr 0)] [.retAddr 0, .int 6] _ _ _ _
    refine pm_e_rd pm_a0_20 rfl rfl rfl ?_
    dsimp only
    refine pm_e_top (y := 6) (by decide +kernel) ?_
    show pm_E _ _ _ 21 [(3, .int 6), (2, .ref 18), (1, .ref 0), (0, .retAddr 0)] [.int 6, .int 6] _ _ _ _
    refine pm_e_sim pm_a0_21 rfl ?_
    refine pm_e_top (y := 6) (by decide +kernel) ?_
    show pm_E _ _ _ 23 [(3, .int 6), (2, .ref 18), (1, .ref 0), (0, .retAddr 0)] [.int 6, .int 6, .int 6] _ _ _ _
    refine pm_e_sim pm_a0_23 rfl ?_
    refine pm_e_top (y := 0) (by decide +kernel) ?_
    show pm_E _ _ _ 24 [(3, .int 6), (2, .ref 18), (1, .ref 0), (0, .retAddr 0)] [.int 0, .int 6] _ _ _ _
    refine pm_e_ict pm_a0_24 rfl (by decide +kernel) ?_
    show pm_E _ _ _ 785 [(3, .int 6), (2, .ref 18), (1, .ref 0), (0, .retAddr 0)] [] _ _ _ _
    refine pm_e_sim pm_a0_785 rfl ?_
    refine pm_e_top (y := 1) (by decide +kernel) ?_
    show pm_E _ _ _ 786 [(3, .int 6), (2, .ref 18), (1, .ref 0), (0, .retAddr 0)] [.int 1] _ _ _ _
    refine pm_e_ret pm_a0_786 rfl rfl rfl rfl rfl rfl rfl rfl ?_
    exact hQ _ _ _ (by decide +kernel) (by decide +kernel)
  · refine pm_e_tsi (t := 529) pm_a0_33 rfl (by decide +kernel) ?_
    show pm_E _ _ _ 529 [(3, .int 0), (2, .ref 18), (1, .ref 0), (0, .retAddr 0)] [] _ _ _ _
    refine pm_e_sim pm_a0_529 rfl ?_
    show pm_E _ _ _ 530 [(3, .int 0), (2, .ref 18), (1, .ref 0), (0, .retAddr 0)] [.ref 0] _ _ _ _
    refine pm_e_sim pm_a0_530 rfl ?_
    show pm_E _ _ _ 531 [(3, .int 0), (2, .ref 18), (1, .ref 0), (0, .retAddr 0)] [.retAddr 0, .ref 0] _ _ _ _
    refine pm_e_sim pm_a0_531 rfl ?_
    show pm_E _ _ _ 532 [(3, .int 0), (2, .ref 18), (1, .ref 0), (0, .retAddr 0)] [.int 0, .retAddr 0, .ref 0] _ _ _ _
    refine pm_e_sim pm_a0_532 rfl ?_
    refine pm_e_top (y := 1) (by decide +kernel) ?_
    show pm_E _ _ _ 533 [(3, .int 0), (2, .ref 18), (1, .ref 0), (0, .retAddr 0)] [.int 1, .int 0, .retAddr 0, .ref 0] _ _ _ _
    refine pm_e_sim pm_a0_533 rfl ?_
    refine pm_e_top (y := 1) (by decide +kernel) ?_
    show pm_E _ _ _ 534 [(3, .int 0), (2, .ref 18), (1, .ref 0), (0, .retAddr 0)] [.int 1, .retAddr 0, .ref 0] _ _ _ _
    refine pm_e_sld (j := 1) pm_a0_534 (by decide +kernel) ?_
    show pm_E _ _ _ 535 [(3, .int 0), (2, .ref 18), (1, .ref 0), (0, .retAddr 0)] [.int _, .ref 0] _ _ _ _
    refine pm_e_sim pm_a0_535 rfl ?_
    show pm_E _ _ _ 536 [(3, .int 0), (2, .ref 18), (1, .ref 0), (0, .retAddr 0)] [.retAddr 0, .int _, .ref 0] _ _ _ _
    refine pm_e_sim pm_a0_536 rfl ?_
    show pm_E _ _ _ 537 [(3, .int 0), (2, .ref 18), (1, .ref 0), (0, .retAddr 0)] [.int 0, .retAddr 0, .int _, .ref 0] _ _ _ _
    refine pm_e_sim pm_a0_537 rfl ?_
    refine pm_e_top (y := 2) (by decide +kernel) ?_
    show pm_E _ _ _ 538 [(3, .int 0), (2, .ref 18), (1, .ref 0), (0, .retAddr 0)] [.int 2, .int 0, .retAddr 0, .int _, .ref 0] _ _ _ _
    refine pm_e_sim pm_a0_538 rfl ?_
    refine pm_e_top (y := 2) (by decide +kernel) ?_
    show pm_E _ _ _ 539 [(3, .int 0), (2, .ref 18), (1, .ref 0), (0, .retAddr 0)] [.int 2, .retAddr 0, .int _, .ref 0] _ _ _ _
    refine pm_e_sld (j := 2) pm_a0_539 (by decide +kernel) ?_
    show pm_E _ _ _ 540 [(3, .int 0), (2, .ref 18), (1, .ref 0), (0, .retAddr 0)] [.int _, .int _, .ref 0] _ _ _ _
    refine pm_e_call (T2 := pm_mm35) pm_a0_540 rfl rfl rfl rfl rfl rfl rfl rfl rfl ?_
    show pm_E _ _ _ 0 [(0, .ref 0), (1, .int _), (2, .int _)] [] _ _ _ _
    refine pm_e_sim pm_a35_0 rfl ?_
    show pm_E _ _ _ 1 [(0, .ref 0), (1, .int _), (2, .int _)] [.ref 0] _ _ _ _
    refine pm_e_sim pm_a35_1 rfl ?_
    show pm_E _ _ _ 2 [(0, .ref 0), (1, .int _), (2, .int _)] [.int _, .ref 0] _ _ _ _
    refine pm_e_call (T2 := pm_mm26) pm_a35_2 rfl rfl rfl rfl rfl rfl rfl rfl rfl ?_
    show pm_E _ _ _ 0 [(0, .ref 0), (1, .int _)] [] _ _ _ _
    refine pm_e_sim pm_a26_0 rfl ?_
    show pm_E _ _ _ 1 [(0, .ref 0), (1, .int _)] [.int _] _ _ _ _
    refine pm_e_iff pm_a26_1 rfl (pm_z_lt_f 0 (by decide +kernel) (by omega)) ?_
    show pm_E _ _ _ 4 [(0, .ref 0), (1, .int _)] [] _ _ _ _
    refine pm_e_sim pm_a26_4 rfl ?_
    show pm_E _ _ _ 5 [(0, .ref 0), (1, .int _)] [.int _] _ _ _ _
    refine pm_e_sim pm_a26_5 rfl ?_
    show pm_E _ _ _ 6 [(0, .ref 0), (1, .int _)] [.ref 0, .int _] _ _ _ _
    refine pm_e_rd pm_a26_6 rfl rfl rfl ?_
    show pm_E _ _ _ 9 [(0, .ref 0), (1, .int _)] [.int 0, .int _] _ _ _ _
    refine pm_e_ict pm_a26_9 rfl (pm_z_ge_t 0 (by decide +kernel) (by omega)) ?_
    show pm_E _ _ _ 30 [(0, .ref 0), (1, .int _)] [] _ _ _ _
    refine pm_e_sim pm_a26_30 rfl ?_
    show pm_E _ _ _ 31 [(0, .ref 0), (1, .int _)] [.null] _ _ _ _
    refine pm_e_ret pm_a26_31 rfl rfl rfl rfl rfl rfl rfl rfl ?_
    show pm_E _ _ _ 5 [(0, .ref 0), (1, .int _), (2, .int _)] [.null] _ _ _ _
    refine pm_e_sim pm_a35_5 rfl ?_
    show pm_E _ _ _ 6 [(3, .null), (0, .ref 0), (1, .int _), (2, .int _)] [] _ _ _ _
    refine pm_e_sim pm_a35_6 rfl ?_
    show pm_E _ _ _ 7 [(3, .null), (0, .ref 0), (1, .int _), (2, .int _)] [.null] _ _ _ _
    refine pm_e_jmp (pc2 := 17) pm_a35_7 rfl rfl ?_
    show pm_E _ _ _ 17 [(3, .null), (0, .ref 0), (1, .int _), (2, .int _)] [] _ _ _ _
    refine pm_e_sim pm_a35_17 rfl ?_
    refine pm_e_top (y := (-1)) (by decide +kernel) ?_
    show pm_E _ _ _ 18 [(3, .null), (0, .ref 0), (1, .int _), (2, .int _)] [.int (-1)] _ _ _ _
    refine pm_e_goto pm_a35_18 rfl ?_
    show pm_E _ _ _ 30 [(3, .null), (0, .ref 0), (1, .int _), (2, .int _)] [.int (-1)] _ _ _ _
    refine pm_e_ret pm_a35_30 rfl rfl rfl rfl rfl rfl rfl rfl ?_
    show pm_E _ _ _ 543 [(3, .int 0), (2, .ref 18), (1, .ref 0), (0, .retAddr 0)] [.int (-1)] _ _ _ _
    refine pm_e_sim pm_a0_543 rfl ?_
    show pm_E _ _ _ 544 [(3, .int 0), (2, .ref 18), (1, .ref 0), (0, .retAddr 0)] [.ref 18, .int (-1)] _ _ _ _
    refine pm_e_sim pm_a0_544 rfl ?_
    show pm_E _ _ _ 545 [(3, .int 0), (2, .ref 18), (1, .ref 0), (0, .retAddr 0)] [.retAddr 0, .ref 18, .int (-1)] _ _ _ _
    refine pm_e_sim pm_a0_545 rfl ?_
    show pm_E _ _ _ 546 [(3, .int 0), (2, .ref 18), (1, .ref 0), (0, .retAddr 0)] [.int 0, .retAddr 0, .ref 18, .int (-1)] _ _ _ _
    refine pm_e_sim pm_a0_546 rfl ?_
    refine pm_e_top (y := 1) (by decide +kernel) ?_
    show pm_E _ _ _ 547 [(3, .int 0), (2, .ref 18), (1, .ref 0), (0, .retAddr 0)] [.int 1, .int 0, .retAddr 0, .ref 18, .int (-1)] _ _ _ _
    refine pm_e_sim pm_a0_547 rfl ?_
    refine pm_e_top (y := 1) (by decide +kernel) ?_
    show pm_E _ _ _ 548 [(3, .int 0), (2, .ref 18), (1, .ref 0), (0, .retAddr 0)] [.int 1, .retAddr 0, .ref 18, .int (-1)] _ _ _ _
    refine pm_e_sld (j := 1) pm_a0_548 (by decide +kernel) ?_
    show pm_E _ _ _ 549 [(3, .int 0), (2, .ref 18), (1, .ref 0), (0, .retAddr 0)] [.int _, .ref 18, .int (-1)] _ _ _ _
    refine pm_e_sim pm_a0_549 rfl ?_
    show pm_E _ _ _ 550 [(3, .int 0), (2, .ref 18), (1, .ref 0), (0, .retAddr 0)] [.retAddr 0, .int _, .ref 18, .int (-1)] _ _ _ _
    refine pm_e_sim pm_a0_550 rfl ?_
    show pm_E _ _ _ 551 [(3, .int 0), (2, .ref 18), (1, .ref 0), (0, .retAddr 0)] [.int 0, .retAddr 0, .int _, .ref 18, .int (-1)] _ _ _ _
    refine pm_e_sim pm_a0_551 rfl ?_
    refine pm_e_top (y := 2) (by decide +kernel) ?_
    show pm_E _ _ _ 552 [(3, .int 0), (2, .ref 18), (1, .ref 0), (0, .retAddr 0)] [.int 2, .int 0, .retAddr 0, .int _, .ref 18, .int (-1)] _ _ _ _
    refine pm_e_sim pm_a0_552 rfl ?_
    refine pm_e_top (y := 2) (by decide +kernel) ?_
    show pm_E _ _ _ 553 [(3, .int 0), (2, .ref 18), (1, .ref 0), (0, .retAddr 0)] [.int 2, .retAddr 0, .int _, .ref 18, .int (-1)] _ _ _ _
    refine pm_e_sld (j := 2) pm_a0_553 (by decide +kernel) ?_
    show pm_E _ _ _ 554 [(3, .int 0), (2, .ref 18), (1, .ref 0), (0, .retAddr 0)] [.int _, .int _, .ref 18, .int (-1)] _ _ _ _
    refine pm_e_call (T2 := pm_mm70) pm_a0_554 rfl rfl rfl rfl rfl rfl rfl rfl rfl ?_
    show pm_E _ _ _ 0 [(0, .ref 18), (1, .int _), (2, .int _)] [] _ _ _ _
    refine pm_e_sim pm_a70_0 rfl ?_
    show pm_E _ _ _ 1 [(0, .ref 18), (1, .int _), (2, .int _)] [.ref 18] _ _ _ _
    refine pm_e_sim pm_a70_1 rfl ?_
    show pm_E _ _ _ 2 [(0, .ref 18), (1, .int _), (2, .int _)] [.int _, .ref 18] _ _ _ _
    refine pm_e_call (T2 := pm_mm61) pm_a70_2 rfl rfl rfl rfl rfl rfl rfl rfl rfl ?_
    show pm_E _ _ _ 0 [(0, .ref 18), (1, .int _)] [] _ _ _ _
    refine pm_e_sim pm_a61_0 rfl ?_
    show pm_E _ _ _ 1 [(0, .ref 18), (1, .int _)] [.int _] _ _ _ _
    refine pm_e_sim pm_a61_1 rfl ?_
    show pm_E _ _ _ 2 [(0, .ref 18), (1, .int _)] [.long _] _ _ _ _
    refine pm_e_sim pm_a61_2 rfl ?_
    show pm_E _ _ _ 3 [(0, .ref 18), (1, .int _)] [.long _, .long _] _ _ _ _
    refine pm_e_sim pm_a61_3 rfl ?_
    show pm_E _ _ _ 4 [(0, .ref 18), (1, .int _)] [.ref 18, .long _, .long _] _ _ _ _
    refine pm_e_rd pm_a61_4 rfl rfl rfl ?_
    show pm_E _ _ _ 7 [(0, .ref 18), (1, .int _)] [.int 0, .long _, .long _] _ _ _ _
    refine pm_e_sim pm_a61_7 rfl ?_
    refine pm_e_top (y := 1) (by decide +kernel) ?_
    show pm_E _ _ _ 8 [(0, .ref 18), (1, .int _)] [.int 1, .int 0, .long _, .long _] _ _ _ _
    refine pm_e_sim pm_a61_8 rfl ?_
    refine pm_e_top (y := (-1)) (by decide +kernel) ?_
    show pm_E _ _ _ 9 [(0, .ref 18), (1, .int _)] [.int (-1), .long _, .long _] _ _ _ _
    refine pm_e_sim pm_a61_9 rfl ?_
    show pm_E _ _ _ 10 [(0, .ref 18), (1, .int _)] [.long _, .long _, .long _] _ _ _ _
    refine pm_e_call (T2 := pm_mm50) pm_a61_10 rfl rfl rfl rfl rfl rfl rfl rfl rfl ?_
    show pm_E _ _ _ 0 [(0, .long _), (2, .long _), (4, .long _)] [] _ _ _ _
    refine pm_e_sim pm_a50_0 rfl ?_
    show pm_E _ _ _ 1 [(0, .long _), (2, .long _), (4, .long _)] [.long _] _ _ _ _
    refine pm_e_sim pm_a50_1 rfl ?_
    show pm_E _ _ _ 2 [(0, .long _), (2, .long _), (4, .long _)] [.long _, .long _] _ _ _ _
    refine pm_e_sim pm_a50_2 rfl ?_
    show pm_E _ _ _ 3 [(0, .long _), (2, .long _), (4, .long _)] [.int _] _ _ _ _
    refine pm_e_iff pm_a50_3 rfl (pm_zl_eq 0 (by decide +kernel) (by omega) (by decide +kernel)) ?_
    show pm_E _ _ _ 6 [(0, .long _), (2, .long _), (4, .long _)] [] _ _ _ _
    refine pm_e_sim pm_a50_6 rfl ?_
    show pm_E _ _ _ 7 [(0, .long _), (2, .long _), (4, .long _)] [.long _] _ _ _ _
    refine pm_e_sim pm_a50_7 rfl ?_
    show pm_E _ _ _ 9 [(0, .long _), (2, .long _), (4, .long _)] [.long _, .long _] _ _ _ _
    refine pm_e_sim pm_a50_9 rfl ?_
    show pm_E _ _ _ 10 [(0, .long _), (2, .long _), (4, .long _)] [.int _] _ _ _ _
    refine pm_e_ift pm_a50_10 rfl (pm_zl_gt (-1) (by decide +kernel) (by omega) (by decide +kernel)) ?_
    show pm_E _ _ _ 17 [(0, .long _), (2, .long _), (4, .long _)] [] _ _ _ _
    refine pm_e_sim pm_a50_17 rfl ?_
    refine pm_e_top (y := 0) (by decide +kernel) ?_
    show pm_E _ _ _ 18 [(0, .long _), (2, .long _), (4, .long _)] [.int 0] _ _ _ _
    refine pm_e_ret pm_a50_18 rfl rfl rfl rfl rfl rfl rfl rfl ?_
    show pm_E _ _ _ 13 [(0, .ref 18), (1, .int _)] [.int 0] _ _ _ _
    refine pm_e_ret pm_a61_13 rfl rfl rfl rfl rfl rfl rfl rfl ?_
    show pm_E _ _ _ 5 [(0, .ref 18), (1, .int _), (2, .int _)] [.int 0] _ _ _ _
    refine pm_e_ift pm_a70_5 rfl (by decide +kernel) ?_
    show pm_E _ _ _ 20 [(0, .ref 18), (1, .int _), (2, .int _)] [] _ _ _ _
    refine pm_e_sim pm_a70_20 rfl ?_
    refine pm_e_top (y := (-1)) (by decide +kernel) ?_
    show pm_E _ _ _ 21 [(0, .ref 18), (1, .int _), (2, .int _)] [.int (-1)] _ _ _ _
    refine pm_e_ret pm_a70_21 rfl rfl rfl rfl rfl rfl rfl rfl ?_
    show pm_E _ _ _ 557 [(3, .int 0), (2, .ref 18), (1, .ref 0), (0, .retAddr 0)] [.int (-1), .int (-1)] _ _ _ _
    refine pm_e_ict pm_a0_557 rfl (by decide +kernel) ?_
    show pm_E _ _ _ 779 [(3, .int 0), (2, .ref 18), (1, .ref 0), (0, .retAddr 0)] [] _ _ _ _
    refine pm_e_inc (y := 6) pm_a0_779 rfl (by decide +kernel) (by decide +kernel) rfl ?_
    show pm_E _ _ _ 782 [(3, .int 6), (2, .ref 18), (1, .ref 0), (0, .retAddr 0)] [] _ _ _ _
    refine pm_e_goto pm_a0_782 rfl ?_
    show pm_E _ _ _ 18 [(3, .int 6), (2, .ref 18), (1, .ref 0), (0, .retAddr 0)] [] _ _ _ _
    refine pm_e_sim pm_a0_18 rfl ?_
    show pm_E _ _ _ 19 [(3, .int 6), (2, .ref 18), (1, .ref 0), (0, .retAddr 0)] [.int 6] _ _ _ _
    refine pm_e_sim pm_a0_19 rfl ?_
    show pm_E _ _ _ 20 [(3, .int 6), (2, .ref 18), (1, .ref 0), (0, .retAddr 0)] [.retAddr 0, .int 6] _ _ _ _
    refine pm_e_rd pm_a0_20 rfl rfl rfl ?_
    dsimp only
    refine pm_e_top (y := 6) (by decide +kernel) ?_
    show pm_E _ _ _ 21 [(3, .int 6), (2, .ref 18), (1, .ref 0), (0, .retAddr 0)] [.int 6, .int 6] _ _ _ _
    refine pm_e_sim pm_a0_21 rfl ?_
    refine pm_e_top (y := 6) (by decide +kernel) ?_
    show pm_E _ _ _ 23 [(3, .int 6), (2, .ref 18), (1, .ref 0), (0, .retAddr 0)] [.int 6, .int 6, .int 6] _ _ _ _
    refine pm_e_sim pm_a0_23 rfl ?_
    refine pm_e_top (y := 0) (by decide +kernel) ?_
    show pm_E _ _ _ 24 [(3, .int 6), (2, .ref 18), (1, .ref 0), (0, .retAddr 0)] [.int 0, .int 6] _ _ _ _
    refine pm_e_ict pm_a0_24 rfl (by decide +kernel) ?_
    show pm_E _ _ _ 785 [(3, .int 6), (2, .ref 18), (1, .ref 0), (0, .retAddr 0)] [] _ _ _ _
    refine pm_e_sim pm_a0_785 rfl ?_
    refine pm_e_top (y := 1) (by decide +kernel) ?_
    show pm_E _ _ _ 786 [(3, .int 6), (2, .ref 18), (1, .ref 0), (0, .retAddr 0)] [.int 1] _ _ _ _
    refine pm_e_ret pm_a0_786 rfl rfl rfl rfl rfl rfl rfl rfl ?_
    exact hQ _ _ _ (by decide +kernel) (by decide +kernel)
  · refine pm_e_tsi (t := 529) pm_a0_33 rfl (by decide +kernel) ?_
    show pm_E _ _ _ 529 [(3, .int 0), (2, .ref 18), (1, .ref 0), (0, .retAddr 0)] [] _ _ _ _
    refine pm_e_sim pm_a0_529 rfl ?_
    show pm_E _ _ _ 530 [(3, .int 0), (2, .ref 18), (1, .ref 0), (0, .retAddr 0)] [.ref 0] _ _ _ _
    refine pm_e_sim pm_a0_530 rfl ?_
    show pm_E _ _ _ 531 [(3, .int 0), (2, .ref 18), (1, .ref 0), (0, .retAddr 0)] [.retAddr 0, .ref 0] _ _ _ _
    refine pm_e_sim pm_a0_531 rfl ?_
    show pm_E _ _ _ 532 [(3, .int 0), (2, .ref 18), (1, .ref 0), (0, .retAddr 0)] [.int 0, .retAddr 0, .ref 0] _ _ _ _
    refine pm_e_sim pm_a0_532 rfl ?_
    refine pm_e_top (y := 1) (by decide +kernel) ?_
    show pm_E _ _ _ 533 [(3, .int 0), (2, .ref 18), (1, .ref 0), (0, .retAddr 0)] [.int 1, .int 0, .retAddr 0, .ref 0] _ _ _ _
    refine pm_e_sim pm_a0_533 rfl ?_
    refine pm_e_top (y := 1) (by decide +kernel) ?_
    show pm_E _ _ _ 534 [(3, .int 0), (2, .ref 18), (1, .ref 0), (0, .retAddr 0)] [.int 1, .retAddr 0, .ref 0] _ _ _ _
    refine pm_e_sld (j := 1) pm_a0_534 (by decide +kernel) ?_
    show pm_E _ _ _ 535 [(3, .int 0), (2, .ref 18), (1, .ref 0), (0, .retAddr 0)] [.int _, .ref 0] _ _ _ _
    refine pm_e_sim pm_a0_535 rfl ?_
    show pm_E _ _ _ 536 [(3, .int 0), (2, .ref 18), (1, .ref 0), (0, .retAddr 0)] [.retAddr 0, .int _, .ref 0] _ _ _ _
    refine pm_e_sim pm_a0_536 rfl ?_
    show pm_E _ _ _ 537 [(3, .int 0), (2, .ref 18), (1, .ref 0), (0, .retAddr 0)] [.int 0, .retAddr 0, .int _, .ref 0] _ _ _ _
    refine pm_e_sim pm_a0_537 rfl ?_
    refine pm_e_top (y := 2) (by decide +kernel) ?_
    show pm_E _ _ _ 538 [(3, .int 0), (2, .ref 18), (1, .ref 0), (0, .retAddr 0)] [.int 2, .int 0, .retAddr 0, .int _, .ref 0] _ _ _ _
    refine pm_e_sim pm_a0_538 rfl ?_
    refine pm_e_top (y := 2) (by decide +kernel) ?_
    show pm_E _ _ _ 539 [(3, .int 0), (2, .ref 18), (1, .ref 0), (0, .retAddr 0)] [.int 2, .retAddr 0, .int _, .ref 0] _ _ _ _
    refine pm_e_sld (j := 2) pm_a0_539 (by decide +kernel) ?_
    show pm_E _ _ _ 540 [(3, .int 0), (2, .ref 18), (1, .ref 0), (0, .retAddr 0)] [.int _, .int _, .ref 0] _ _ _ _
    refine pm_e_call (T2 := pm_mm35) pm_a0_540 rfl rfl rfl rfl rfl rfl rfl rfl rfl ?_
    show pm_E _ _ _ 0 [(0, .ref 0), (1, .int _), (2, .int _)] [] _ _ _ _
    refine pm_e_sim pm_a35_0 rfl ?_
    show pm_E _ _ _ 1 [(0, .ref 0), (1, .int _), (2, .int _)] [.ref 0] _ _ _ _
    refine pm_e_sim pm_a35_1 rfl ?_
    show pm_E _ _ _ 2 [(0, .ref 0), (1, .int _), (2, .int _)] [.int _, .ref 0] _ _ _ _
    refine pm_e_call (T2 := pm_mm26) pm_a35_2 rfl rfl rfl rfl rfl rfl rfl rfl rfl ?_
    show pm_E _ _ _ 0 [(0, .ref 0), (1, .int _)] [] _ _ _ _
    refine pm_e_sim pm_a26_0 rfl ?_
    show pm_E _ _ _ 1 [(0, .ref 0), (1, .int _)] [.int _] _ _ _ _
    refine pm_e_iff pm_a26_1 rfl (pm_z_lt_f 0 (by decide +kernel) (by omega)) ?_
    show pm_E _ _ _ 4 [(0, .ref 0), (1, .int _)] [] _ _ _ _
    refine pm_e_sim pm_a26_4 rfl ?_
    show pm_E _ _ _ 5 [(0, .ref 0), (1, .int _)] [.int _] _ _ _ _
    refine pm_e_sim pm_a26_5 rfl ?_
    show pm_E _ _ _ 6 [(0, .ref 0), (1, .int _)] [.ref 0, .int _] _ _ _ _
    refine pm_e_rd pm_a26_6 rfl rfl rfl ?_
    show pm_E _ _ _ 9 [(0, .ref 0), (1, .int _)] [.int 0, .int _] _ _ _ _
    refine pm_e_ict pm_a26_9 rfl (pm_z_ge_t 0 (by decide +kernel) (by omega)) ?_
    show pm_E _ _ _ 30 [(0, .ref 0), (1, .int _)] [] _ _ _ _
    refine pm_e_sim pm_a26_30 rfl ?_
    show pm_E _ _ _ 31 [(0, .ref 0), (1, .int _)] [.null] _ _ _ _
    refine pm_e_ret pm_a26_31 rfl rfl rfl rfl rfl rfl rfl rfl ?_
    show pm_E _ _ _ 5 [(0, .ref 0), (1, .int _), (2, .int _)] [.null] _ _ _ _
    refine pm_e_sim pm_a35_5 rfl ?_
    show pm_E _ _ _ 6 [(3, .null), (0, .ref 0), (1, .int _), (2, .int _)] [] _ _ _ _
    refine pm_e_sim pm_a35_6 rfl ?_
    show pm_E _ _ _ 7 [(3, .null), (0, .ref 0), (1, .int _), (2, .int _)] [.null] _ _ _ _
    refine pm_e_jmp (pc2 := 17) pm_a35_7 rfl rfl ?_
    show pm_E _ _ _ 17 [(3, .null), (0, .ref 0), (1, .int _), (2, .int _)] [] _ _ _ _
    refine pm_e_sim pm_a35_17 rfl ?_
    refine pm_e_top (y := (-1)) (by decide +kernel) ?_
    show pm_E _ _ _ 18 [(3, .null), (0, .ref 0), (1, .int _), (2, .int _)] [.int (-1)] _ _ _ _
    refine pm_e_goto pm_a35_18 rfl ?_
    show pm_E _ _ _ 30 [(3, .null), (0, .ref 0), (1, .int _), (2, .int _)] [.int (-1)] _ _ _ _
    refine pm_e_ret pm_a35_30 rfl rfl rfl rfl rfl rfl rfl rfl ?_
    show pm_E _ _ _ 543 [(3, .int 0), (2, .ref 18), (1, .ref 0), (0, .retAddr 0)] [.int (-1)] _ _ _ _
    refine pm_e_sim pm_a0_543 rfl ?_
    show pm_E _ _ _ 544 [(3, .int 0), (2, .ref 18), (1, .ref 0), (0, .retAddr 0)] [.ref 18, .int (-1)] _ _ _ _
    refine pm_e_sim pm_a0_544 rfl ?_
    show pm_E _ _ _ 545 [(3, .int 0), (2, .ref 18), (1, .ref 0), (0, .retAddr 0)] [.retAddr 0, .ref 18, .int (-1)] _ _ _ _
    refine pm_e_sim pm_a0_545 rfl ?_
    show pm_E _ _ _ 546 [(3, .int 0), (2, .ref 18), (1, .ref 0), (0, .retAddr 0)] [.int 0, .retAddr 0, .ref 18, .int (-1)] _ _ _ _
    refine pm_e_sim pm_a0_546 rfl ?_
    refine pm_e_top (y := 1) (by decide +kernel) ?_
    show pm_E _ _ _ 547 [(3, .int 0), (2, .ref 18), (1, .ref 0), (0, .retAddr 0)] [.int 1, .int 0, .retAddr 0, .ref 18, .int (-1)] _ _ _ _
    refine pm_e_sim pm_a0_547 rfl ?_
    refine pm_e_top (y := 1) (by decide +kernel) ?_
    show pm_E _ _ _ 548 [(3, .int 0), (2, .ref 18), (1, .ref 0), (0, .retAddr 0)] [.int 1, .retAddr 0, .ref 18, .int (-1)] _ _ _ _
    refine pm_e_sld (j := 1) pm_a0_548 (by decide +kernel) ?_
    show pm_E _ _ _ 549 [(3, .int 0), (2, .ref 18), (1, .ref 0), (0, .retAddr 0)] [.int _, .ref 18, .int (-1)] _ _ _ _
    refine pm_e_sim pm_a0_549 rfl ?_
    show pm_E _ _ _ 550 [(3, .int 0), (2, .ref 18), (1, .ref 0), (0, .retAddr 0)] [.retAddr 0, .int _, .ref 18, .int (-1)] _ _ _ _
    refine pm_e_sim pm_a0_550 rfl ?_
    show pm_E _ _ _ 551 [(3, .int 0), (2, .ref 18), (1, .ref 0), (0, .retAddr 0)] [.int 0, .retAddr 0, .int _, .ref 18, .int (-1)] _ _ _ _
    refine pm_e_sim pm_a0_551 rfl ?_
    refine pm_e_top (y := 2) (by decide +kernel) ?_
    show pm_E _ _ _ 552 [(3, .int 0), (2, .ref 18), (1, .ref 0), (0, .retAddr 0)] [.int 2, .int 0, .retAddr 0, .int _, .ref 18, .int (-1)] _ _ _ _
    refine pm_e_sim pm_a0_552 rfl ?_
    refine pm_e_top (y := 2) (by decide +kernel) ?_
    show pm_E _ _ _ 553 [(3, .int 0), (2, .ref 18), (1, .ref 0), (0, .retAddr 0)] [.int 2, .retAddr 0, .int _, .ref 18, .int (-1)] _ _ _ _
    refine pm_e_sld (j := 2) pm_a0_553 (by decide +kernel) ?_
    show pm_E _ _ _ 554 [(3, .int 0), (2, .ref 18), (1, .ref 0), (0, .retAddr 0)] [.int _, .int _, .ref 18, .int (-1)] _ _ _ _
    refine pm_e_call (T2 := pm_mm70) pm_a0_554 rfl rfl rfl rfl rfl rfl rfl rfl rfl ?_
    show pm_E _ _ _ 0 [(0, .ref 18), (1, .int _), (2, .int _)] [] _ _ _ _
    refine pm_e_sim pm_a70_0 rfl ?_
    show pm_E _ _ _ 1 [(0, .ref 18), (1, .int _), (2, .int _)] [.ref 18] _ _ _ _
    refine pm_e_sim pm_a70_1 rfl ?_
    show pm_E _ _ _ 2 [(0, .ref 18), (1, .int _), (2, .int _)] [.int _, .ref 18] _ _ _ _
    refine pm_e_call (T2 := pm_mm61) pm_a70_2 rfl rfl rfl rfl rfl rfl rfl rfl rfl ?_
    show pm_E _ _ _ 0 [(0, .ref 18), (1, .int _)] [] _ _ _ _
    refine pm_e_sim pm_a61_0 rfl ?_
    show pm_E _ _ _ 1 [(0, .ref 18), (1, .int _)] [.int _] _ _ _ _
    refine pm_e_sim pm_a61_1 rfl ?_
    show pm_E _ _ _ 2 [(0, .ref 18), (1, .int _)] [.long _] _ _ _ _
    refine pm_e_sim pm_a61_2 rfl ?_
    show pm_E _ _ _ 3 [(0, .ref 18), (1, .int _)] [.long _, .long _] _ _ _ _
    refine pm_e_sim pm_a61_3 rfl ?_
    show pm_E _ _ _ 4 [(0, .ref 18), (1, .int _)] [.ref 18, .long _, .long _] _ _ _ _
    refine pm_e_rd pm_a61_4 rfl rfl rfl ?_
    show pm_E _ _ _ 7 [(0, .ref 18), (1, .int _)] [.int 0, .long _, .long _] _ _ _ _
    refine pm_e_sim pm_a61_7 rfl ?_
    refine pm_e_top (y := 1) (by decide +kernel) ?_
    show pm_E _ _ _ 8 [(0, .ref 18), (1, .int _)] [.int 1, .int 0, .long _, .long _] _ _ _ _
    refine pm_e_sim pm_a61_8 rfl ?_
    refine pm_e_top (y := (-1)) (by decide +kernel) ?_
    show pm_E _ _ _ 9 [(0, .ref 18), (1, .int _)] [.int (-1), .long _, .long _] _ _ _ _
    refine pm_e_sim pm_a61_9 rfl ?_
    show pm_E _ _ _ 10 [(0, .ref 18), (1, .int _)] [.long _, .long _, .long _] _ _ _ _
    refine pm_e_call (T2 := pm_mm50) pm_a61_10 rfl rfl rfl rfl rfl rfl rfl rfl rfl ?_
    show pm_E _ _ _ 0 [(0, .long _), (2, .long _), (4, .long _)] [] _ _ _ _
    refine pm_e_sim pm_a50_0 rfl ?_
    show pm_E _ _ _ 1 [(0, .long _), (2, .long _), (4, .long _)] [.long _] _ _ _ _
    refine pm_e_sim pm_a50_1 rfl ?_
    show pm_E _ _ _ 2 [(0, .long _), (2, .long _), (4, .long _)] [.long _, .long _] _ _ _ _
    refine pm_e_sim pm_a50_2 rfl ?_
    show pm_E _ _ _ 3 [(0, .long _), (2, .long _), (4, .long _)] [.int _] _ _ _ _
    refine pm_e_iff pm_a50_3 rfl (pm_zl_gt 0 (by decide +kernel) (by omega) (by decide +kernel)) ?_
    show pm_E _ _ _ 6 [(0, .long _), (2, .long _), (4, .long _)] [] _ _ _ _
    refine pm_e_sim pm_a50_6 rfl ?_
    show pm_E _ _ _ 7 [(0, .long _), (2, .long _), (4, .long _)] [.long _] _ _ _ _
    refine pm_e_sim pm_a50_7 rfl ?_
    show pm_E _ _ _ 9 [(0, .long _), (2, .long _), (4, .long _)] [.long _, .long _] _ _ _ _
    refine pm_e_sim pm_a50_9 rfl ?_
    show pm_E _ _ _ 10 [(0, .long _), (2, .long _), (4, .long _)] [.int _] _ _ _ _
    refine pm_e_ift pm_a50_10 rfl (pm_zl_gt (-1) (by decide +kernel) (by omega) (by decide +kernel)) ?_
    show pm_E _ _ _ 17 [(0, .long _), (2, .long _), (4, .long _)] [] _ _ _ _
    refine pm_e_sim pm_a50_17 rfl ?_
    refine pm_e_top (y := 0) (by decide +kernel) ?_
    show pm_E _ _ _ 18 [(0, .long _), (2, .long _), (4, .long _)] [.int 0] _ _ _ _
    refine pm_e_ret pm_a50_18 rfl rfl rfl rfl rfl rfl rfl rfl ?_
    show pm_E _ _ _ 13 [(0, .ref 18), (1, .int _)] [.int 0] _ _ _ _
    refine pm_e_ret pm_a61_13 rfl rfl rfl rfl rfl rfl rfl rfl ?_
    show pm_E _ _ _ 5 [(0, .ref 18), (1, .int _), (2, .int _)] [.int 0] _ _ _ _
    refine pm_e_ift pm_a70_5 rfl (by decide +kernel) ?_
    show pm_E _ _ _ 20 [(0, .ref 18), (1, .int _), (2, .int _)] [] _ _ _ _
    refine pm_e_sim pm_a70_20 rfl ?_
    refine pm_e_top (y := (-1)) (by decide +kernel) ?_
    show pm_E _ _ _ 21 [(0, .ref 18), (1, .int _), (2, .int _)] [.int (-1)] _ _ _ _
    refine pm_e_ret pm_a70_21 rfl rfl rfl rfl rfl rfl rfl rfl ?_
    show pm_E _ _ _ 557 [(3, .int 0), (2, .ref 18), (1, .ref 0), (0, .retAddr 0)] [.int (-1), .int (-1)] _ _ _ _
    refine pm_e_ict pm_a0_557 rfl (by decide +kernel) ?_
    show pm_E _ _ _ 779 [(3, .int 0), (2, .ref 18), (1, .ref 0), (0, .retAddr 0)] [] _ _ _ _
    refine pm_e_inc (y := 6) pm_a0_779 rfl (by decide +kernel) (by decide +kernel) rfl ?_
    show pm_E _ _ _ 782 [(3, .int 6), (2, .ref 18), (1, .ref 0), (0, .retAddr 0)] [] _ _ _ _
    refine pm_e_goto pm_a0_782 rfl ?_
    show pm_E _ _ _ 18 [(3, .int 6), (2, .ref 18), (1, .ref 0), (0, .retAddr 0)] [] _ _ _ _
    refine pm_e_sim pm_a0_18 rfl ?_
    show pm_E _ _ _ 19 [(3, .int 6), (2, .ref 18), (1, .ref 0), (0, .retAddr 0)] [.int 6] _ _ _ _
    refine pm_e_sim pm_a0_19 rfl ?_
    show pm_E _ _ _ 20 [(3, .int 6), (2, .ref 18), (1, .ref 0), (0, .retAddr 0)] [.retAddr 0, .int 6] _ _ _ _
    refine pm_e_rd pm_a0_20 rfl rfl rfl ?_
    dsimp only
    refine pm_e_top (y := 6) (by decide +kernel) ?_
    show pm_E _ _ _ 21 [(3, .int 6), (2, .ref 18), (1, .ref 0), (0, .retAddr 0)] [.int 6, .int 6] _ _ _ _
    refine pm_e_sim pm_a0_21 rfl ?_
    refine pm_e_top (y := 6) (by decide +kernel) ?_
    show pm_E _ _ _ 23 [(3, .int 6), (2, .ref 18), (1, .ref 0), (0, .retAddr 0)] [.int 6, .int 6, .int 6] _ _ _ _
    refine pm_e_sim pm_a0_23 rfl ?_
    refine pm_e_top (y := 0) (by decide +kernel) ?_
    show pm_E _ _ _ 24 [(3, .int 6), (2, .ref 18), (1, .ref 0), (0, .retAddr 0)] [.int 0, .int 6] _ _ _ _
    refine pm_e_ict pm_a0_24 rfl (by decide +kernel) ?_
    show pm_E _ _ _ 785 [(3, .int 6), (2, .ref 18), (1, .ref 0), (0, .retAddr 0)] [] _ _ _ _
    refine pm_e_sim pm_a0_785 rfl ?_
    refine pm_e_top (y := 1) (by decide +kernel) ?_
    show pm_E _ _ _ 786 [(3, .int 6), (2, .ref 18), (1, .ref 0), (0, .retAddr 0)] [.int 1] _ _ _ _
    refine pm_e_ret pm_a0_786 rfl rfl rfl rfl rfl rfl rfl rfl ?_
    exact hQ _ _ _ (by decide +kernel) (by decide +kernel)
set_option maxHeartbeats 40000000 in
set_option maxRecDepth 200000 in
theorem pm_op14 (xs : Nat → Int32) {Q : Option Value → List va_E → Nat → Nat → Prop} (hQ : ∀ ph c n, c ≤ 600000 → n ≤ 7302250 → Q (some (.int 1)) ph c n) : pm_E (some (6, xs)) 11 pm_mm0 33 pm_L0 [.int (nI 14)] pm_H0 50 194358 Q := by
  refine pm_e_top (y := 14) (by decide +kernel) ?_
  rcases (show (xs 1).toInt < 0 ∨ (xs 1).toInt = 0 ∨ 0 < (xs 1).toInt by omega) with h1 | h1 | h1
  · refine pm_e_tsi (t := 562) pm_a0_33 rfl (by decide +kernel) ?_
    show pm_E _ _ _ 562 [(3, .int 0), (2, .ref 18), (1, .ref 0), (0, .retAddr 0)] [] _ _ _ _
    refine pm_e_sim pm_a0_562 rfl ?_
    show pm_E _ _ _ 563 [(3, .int 0), (2, .ref 18), (1, .ref 0), (0, .retAddr 0)] [.ref 0] _ _ _ _
    refine pm_e_sim pm_a0_563 rfl ?_
    show pm_E _ _ _ 564 [(3, .int 0), (2, .ref 18), (1, .ref 0), (0, .retAddr 0)] [.retAddr 0, .ref 0] _ _ _ _
    refine pm_e_sim pm_a0_564 rfl ?_
    show pm_E _ _ _ 565 [(3, .int 0), (2, .ref 18), (1, .ref 0), (0, .retAddr 0)] [.int 0, .retAddr 0, .ref 0] _ _ _ _
    refine pm_e_sim pm_a0_565 rfl ?_
    refine pm_e_top (y := 1) (by decide +kernel) ?_
    show pm_E _ _ _ 566 [(3, .int 0), (2, .ref 18), (1, .ref 0), (0, .retAddr 0)] [.int 1, .int 0, .retAddr 0, .ref 0] _ _ _ _
    refine pm_e_sim pm_a0_566 rfl ?_
    refine pm_e_top (y := 1) (by decide +kernel) ?_
    show pm_E _ _ _ 567 [(3, .int 0), (2, .ref 18), (1, .ref 0), (0, .retAddr 0)] [.int 1, .retAddr 0, .ref 0] _ _ _ _
    refine pm_e_sld (j := 1) pm_a0_567 (by decide +kernel) ?_
    show pm_E _ _ _ 568 [(3, .int 0), (2, .ref 18), (1, .ref 0), (0, .retAddr 0)] [.int _, .ref 0] _ _ _ _
    refine pm_e_call (T2 := pm_mm36) pm_a0_568 rfl rfl rfl rfl rfl rfl rfl rfl rfl ?_
    show pm_E _ _ _ 0 [(0, .ref 0), (1, .int _)] [] _ _ _ _
    refine pm_e_sim pm_a36_0 rfl ?_
    show pm_E _ _ _ 1 [(0, .ref 0), (1, .int _)] [.ref 0] _ _ _ _
    refine pm_e_sim pm_a36_1 rfl ?_
    show pm_E _ _ _ 2 [(0, .ref 0), (1, .int _)] [.int _, .ref 0] _ _ _ _
    refine pm_e_call (T2 := pm_mm26) pm_a36_2 rfl rfl rfl rfl rfl rfl rfl rfl rfl ?_
    show pm_E _ _ _ 0 [(0, .ref 0), (1, .int _)] [] _ _ _ _
    refine pm_e_sim pm_a26_0 rfl ?_
    show pm_E _ _ _ 1 [(0, .ref 0), (1, .int _)] [.int _] _ _ _ _
    refine pm_e_ift pm_a26_1 rfl (pm_z_lt_t 0 (by decide +kernel) (by omega)) ?_
    show pm_E _ _ _ 30 [(0, .ref 0), (1, .int _)] [] _ _ _ _
    refine pm_e_sim pm_a26_30 rfl ?_
    show pm_E _ _ _ 31 [(0, .ref 0), (1, .int _)] [.null] _ _ _ _
    refine pm_e_ret pm_a26_31 rfl rfl rfl rfl rfl rfl rfl rfl ?_
    show pm_E _ _ _ 5 [(0, .ref 0), (1, .int _)] [.null] _ _ _ _
    refine pm_e_sim pm_a36_5 rfl ?_
    show pm_E _ _ _ 6 [(2, .null), (0, .ref 0), (1, .int _)] [] _ _ _ _
    refine pm_e_sim pm_a36_6 rfl ?_
    show pm_E _ _ _ 7 [(2, .null), (0, .ref 0), (1, .int _)] [.null] _ _ _ _
    refine pm_e_jmp (pc2 := 10) pm_a36_7 rfl rfl ?_
    show pm_E _ _ _ 10 [(2, .null), (0, .ref 0), (1, .int _)] [] _ _ _ _
    refine pm_e_sim pm_a36_10 rfl ?_
    refine pm_e_top (y := (-1)) (by decide +kernel) ?_
    show pm_E _ _ _ 11 [(2, .null), (0, .ref 0), (1, .int _)] [.int (-1)] _ _ _ _
    refine pm_e_goto pm_a36_11 rfl ?_
    show pm_E _ _ _ 22 [(2, .null), (0, .ref 0), (1, .int _)] [.int (-1)] _ _ _ _
    refine pm_e_ret pm_a36_22 rfl rfl rfl rfl rfl rfl rfl rfl ?_
    show pm_E _ _ _ 571 [(3, .int 0), (2, .ref 18), (1, .ref 0), (0, .retAddr 0)] [.int (-1)] _ _ _ _
    refine pm_e_sim pm_a0_571 rfl ?_
    show pm_E _ _ _ 572 [(3, .int 0), (2, .ref 18), (1, .ref 0), (0, .retAddr 0)] [.ref 18, .int (-1)] _ _ _ _
    refine pm_e_sim pm_a0_572 rfl ?_
    show pm_E _ _ _ 573 [(3, .int 0), (2, .ref 18), (1, .ref 0), (0, .retAddr 0)] [.retAddr 0, .ref 18, .int (-1)] _ _ _ _
    refine pm_e_sim pm_a0_573 rfl ?_
    show pm_E _ _ _ 574 [(3, .int 0), (2, .ref 18), (1, .ref 0), (0, .retAddr 0)] [.int 0, .retAddr 0, .ref 18, .int (-1)] _ _ _ _
    refine pm_e_sim pm_a0_574 rfl ?_
    refine pm_e_top (y := 1) (by decide +kernel) ?_
    show pm_E _ _ _ 575 [(3, .int 0), (2, .ref 18), (1, .ref 0), (0, .retAddr 0)] [.int 1, .int 0, .retAddr 0, .ref 18, .int (-1)] _ _ _ _
    refine pm_e_sim pm_a0_575 rfl ?_
    refine pm_e_top (y := 1) (by decide +kernel) ?_
    show pm_E _ _ _ 576 [(3, .int 0), (2, .ref 18), (1, .ref 0), (0, .retAddr 0)] [.int 1, .retAddr 0, .ref 18, .int (-1)] _ _ _ _
    refine pm_e_sld (j := 1) pm_a0_576 (by decide +kernel) ?_
    show pm_E _ _ _ 577 [(3, .int 0), (2, .ref 18), (1, .ref 0), (0, .retAddr 0)] [.int _, .ref 18, .int (-1)] _ _ _ _
    refine pm_e_call (T2 := pm_mm71) pm_a0_577 rfl rfl rfl rfl rfl rfl rfl rfl rfl ?_
    show pm_E _ _ _ 0 [(0, .ref 18), (1, .int _)] [] _ _ _ _
    refine pm_e_sim pm_a71_0 rfl ?_
    show pm_E _ _ _ 1 [(0, .ref 18), (1, .int _)] [.ref 18] _ _ _ _
    refine pm_e_sim pm_a71_1 rfl ?_
    show pm_E _ _ _ 2 [(0, .ref 18), (1, .int _)] [.int _, .ref 18] _ _ _ _
    refine pm_e_call (T2 := pm_mm61) pm_a71_2 rfl rfl rfl rfl rfl rfl rfl rfl rfl ?_
    show pm_E _ _ _ 0 [(0, .ref 18), (1, .int _)] [] _ _ _ _
    refine pm_e_sim pm_a61_0 rfl ?_
    show pm_E _ _ _ 1 [(0, .ref 18), (1, .int _)] [.int _] _ _ _ _
    refine pm_e_sim pm_a61_1 rfl ?_
    show pm_E _ _ _ 2 [(0, .ref 18), (1, .int _)] [.long _] _ _ _ _
    refine pm_e_sim pm_a61_2 rfl ?_
    show pm_E _ _ _ 3 [(0, .ref 18), (1, .int _)] [.long _, .long _] _ _ _ _
    refine pm_e_sim pm_a61_3 rfl ?_
    show pm_E _ _ _ 4 [(0, .ref 18), (1, .int _)] [.ref 18, .long _, .long _] _ _ _ _
    refine pm_e_rd pm_a61_4 rfl rfl rfl ?_
    show pm_E _ _ _ 7 [(0, .ref 18), (1, .int _)] [.int 0, .long _, .long _] _ _ _ _
    refine pm_e_sim pm_a61_7 rfl ?_
    refine pm_e_top (y := 1) (by decide +kernel) ?_
    show pm_E _ _ _ 8 [(0, .ref 18), (1, .int _)] [.int 1, .int 0, .long _, .long _] _ _ _ _
    refine pm_e_sim pm_a61_8 rfl ?_
    refine pm_e_top (y := (-1)) (by decide +kernel) ?_
    show pm_E _ _ _ 9 [(0, .ref 18), (1, .int _)] [.int (-1), .long _, .long _] _ _ _ _
    refine pm_e_sim pm_a61_9 rfl ?_
    show pm_E _ _ _ 10 [(0, .ref 18), (1, .int _)] [.long _, .long _, .long _] _ _ _ _
    refine pm_e_call (T2 := pm_mm50) pm_a61_10 rfl rfl rfl rfl rfl rfl rfl rfl rfl ?_
    show pm_E _ _ _ 0 [(0, .long _), (2, .long _), (4, .long _)] [] _ _ _ _
    refine pm_e_sim pm_a50_0 rfl ?_
    show pm_E _ _ _ 1 [(0, .long _), (2, .long _), (4, .long _)] [.long _] _ _ _ _
    refine pm_e_sim pm_a50_1 rfl ?_
    show pm_E _ _ _ 2 [(0, .long _), (2, .long _), (4, .long _)] [.long _, .long _] _ _ _ _
    refine pm_e_sim pm_a50_2 rfl ?_
    show pm_E _ _ _ 3 [(0, .long _), (2, .long _), (4, .long _)] [.int _] _ _ _ _
    refine pm_e_ift pm_a50_3 rfl (pm_zl_lt 0 (by decide +kernel) (by omega) (by decide +kernel)) ?_
    show pm_E _ _ _ 17 [(0, .long _), (2, .long _), (4, .long _)] [] _ _ _ _
    refine pm_e_sim pm_a50_17 rfl ?_
    refine pm_e_top (y := 0) (by decide +kernel) ?_
    show pm_E _ _ _ 18 [(0, .long _), (2, .long _), (4, .long _)] [.int 0] _ _ _ _
    refine pm_e_ret pm_a50_18 rfl rfl rfl rfl rfl rfl rfl rfl ?_
    show pm_E _ _ _ 13 [(0, .ref 18), (1, .int _)] [.int 0] _ _ _ _
    refine pm_e_ret pm_a61_13 rfl rfl rfl rfl rfl rfl rfl rfl ?_
    show pm_E _ _ _ 5 [(0, .ref 18), (1, .int _)] [.int 0] _ _ _ _
    refine pm_e_iff pm_a71_5 rfl (by decide +kernel) ?_
    show pm_E _ _ _ 8 [(0, .ref 18), (1, .int _)] [] _ _ _ _
    refine pm_e_sim pm_a71_8 rfl ?_
    refine pm_e_top (y := (-1)) (by decide +kernel) ?_
    show pm_E _ _ _ 9 [(0, .ref 18), (1, .int _)] [.int (-1)] _ _ _ _
    refine pm_e_ret pm_a71_9 rfl rfl rfl rfl rfl rfl rfl rfl ?_
    show pm_E _ _ _ 580 [(3, .int 0), (2, .ref 18), (1, .ref 0), (0, .retAddr 0)] [.int (-1), .int (-1)] _ _ _ _
    refine pm_e_ict pm_a0_580 rfl (by decide +kernel) ?_
    show pm_E _ _ _ 779 [(3, .int 0), (2, .ref 18), (1, .ref 0), (0, .retAddr 0)] [] _ _ _ _
    refine pm_e_inc (y := 6) pm_a0_779 rfl (by decide +kernel) (by decide +kernel) rfl ?_
    show pm_E _ _ _ 782 [(3, .int 6), (2, .ref 18), (1, .ref 0), (0, .retAddr 0)] [] _ _ _ _
    refine pm_e_goto pm_a0_782 rfl ?_
    show pm_E _ _ _ 18 [(3, .int 6), (2, .ref 18), (1, .ref 0), (0, .retAddr 0)] [] _ _ _ _
    refine pm_e_sim pm_a0_18 rfl ?_
    show pm_E _ _ _ 19 [(3, .int 6), (2, .ref 18), (1, .ref 0), (0, .retAddr 0)] [.int 6] _ _ _ _
    refine pm_e_sim pm_a0_19 rfl ?_
    show pm_E _ _ _ 20 [(3, .int 6), (2, .ref 18), (1, .ref 0), (0, .retAddr 0)] [.retAddr 0, .int 6] _ _ _ _
    refine pm_e_rd pm_a0_20 rfl rfl rfl ?_
    dsimp only
    refine pm_e_top (y := 6) (by decide +kernel) ?_
    show pm_E _ _ _ 21 [(3, .int 6), (2, .ref 18), (1, .ref 0), (0, .retAddr 0)] [.int 6, .int 6] _ _ _ _
    refine pm_e_sim pm_a0_21 rfl ?_
    refine pm_e_top (y := 6) (by decide +kernel) ?_
    show pm_E _ _ _ 23 [(3, .int 6), (2, .ref 18), (1, .ref 0), (0, .retAddr 0)] [.int 6, .int 6, .int 6] _ _ _ _
    refine pm_e_sim pm_a0_23 rfl ?_
    refine pm_e_top (y := 0) (by decide +kernel) ?_
    show pm_E _ _ _ 24 [(3, .int 6), (2, .ref 18), (1, .ref 0), (0, .retAddr 0)] [.int 0, .int 6] _ _ _ _
    refine pm_e_ict pm_a0_24 rfl (by decide +kernel) ?_
    show pm_E _ _ _ 785 [(3, .int 6), (2, .ref 18), (1, .ref 0), (0, .retAddr 0)] [] _ _ _ _
    refine pm_e_sim pm_a0_785 rfl ?_
    refine pm_e_top (y := 1) (by decide +kernel) ?_
    show pm_E _ _ _ 786 [(3, .int 6), (2, .ref 18), (1, .ref 0), (0, .retAddr 0)] [.int 1] _ _ _ _
    refine pm_e_ret pm_a0_786 rfl rfl rfl rfl rfl rfl rfl rfl ?_
    exact hQ _ _ _ (by decide +kernel) (by decide +kernel)
  · refine pm_e_tsi (t := 562) pm_a0_33 rfl (by decide +kernel) ?_
    show pm_E _ _ _ 562 [(3, .int 0), (2, .ref 18), (1, .ref 0), (0, .retAddr 0)] [] _ _ _ _
    refine pm_e_sim pm_a0_562 rfl ?_
    show pm_E _ _ _ 563 [(3, .int 0), (2, .ref 18), (1, .ref 0), (0, .retAddr 0)] [.ref 0] _ _ _ _
    refine pm_e_sim pm_a0_563 rfl ?_
    show pm_E _ _ _ 564 [(3, .int 0), (2, .ref 18), (1, .ref 0), (0, .retAddr 0)] [.retAddr 0, .ref 0] _ _ _ _
    refine pm_e_sim pm_a0_564 rfl ?_
    show pm_E _ _ _ 565 [(3, .int 0), (2, .ref 18), (1, .ref 0), (0, .retAddr 0)] [.int 0, .retAddr 0, .ref 0] _ _ _ _
    refine pm_e_sim pm_a0_565 rfl ?_
    refine pm_e_top (y := 1) (by decide +kernel) ?_
    show pm_E _ _ _ 566 [(3, .int 0), (2, .ref 18), (1, .ref 0), (0, .retAddr 0)] [.int 1, .int 0, .retAddr 0, .ref 0] _ _ _ _
    refine pm_e_sim pm_a0_566 rfl ?_
    refine pm_e_top (y := 1) (by decide +kernel) ?_
    show pm_E _ _ _ 567 [(3, .int 0), (2, .ref 18), (1, .ref 0), (0, .retAddr 0)] [.int 1, .retAddr 0, .ref 0] _ _ _ _
    refine pm_e_sld (j := 1) pm_a0_567 (by decide +kernel) ?_
    show pm_E _ _ _ 568 [(3, .int 0), (2, .ref 18), (1, .ref 0), (0, .retAddr 0)] [.int _, .ref 0] _ _ _ _
    refine pm_e_call (T2 := pm_mm36) pm_a0_568 rfl rfl rfl rfl rfl rfl rfl rfl rfl ?_
    show pm_E _ _ _ 0 [(0, .ref 0), (1, .int _)] [] _ _ _ _
    refine pm_e_sim pm_a36_0 rfl ?_
    show pm_E _ _ _ 1 [(0, .ref 0), (1, .int _)] [.ref 0] _ _ _ _
    refine pm_e_sim pm_a36_1 rfl ?_
    show pm_E _ _ _ 2 [(0, .ref 0), (1, .int _)] [.int _, .ref 0] _ _ _ _
    refine pm_e_call (T2 := pm_mm26) pm_a36_2 rfl rfl rfl rfl rfl rfl rfl rfl rfl ?_
    show pm_E _ _ _ 0 [(0, .ref 0), (1, .int _)] [] _ _ _ _
    refine pm_e_sim pm_a26_0 rfl ?_
    show pm_E _ _ _ 1 [(0, .ref 0), (1, .int _)] [.int _] _ _ _ _
    refine pm_e_iff pm_a26_1 rfl (pm_z_lt_f 0 (by decide +kernel) (by omega)) ?_
    show pm_E _ _ _ 4 [(0, .ref 0), (1, .int _)] [] _ _ _ _
    refine pm_e_sim pm_a26_4 rfl ?_
    show pm_E _ _ _ 5 [(0, .ref 0), (1, .int _)] [.int _] _ _ _ _
    refine pm_e_sim pm_a26_5 rfl ?_
    show pm_E _ _ _ 6 [(0, .ref 0), (1, .int _)] [.ref 0, .int _] _ _ _ _
    refine pm_e_rd pm_a26_6 rfl rfl rfl ?_
    show pm_E _ _ _ 9 [(0, .ref 0), (1, .int _)] [.int 0, .int _] _ _ _ _
    refine pm_e_ict pm_a26_9 rfl (pm_z_ge_t 0 (by decide +kernel) (by omega)) ?_
    show pm_E _ _ _ 30 [(0, .ref 0), (1, .int _)] [] _ _ _ _
    refine pm_e_sim pm_a26_30 rfl ?_
    show pm_E _ _ _ 31 [(0, .ref 0), (1, .int _)] [.null] _ _ _ _
    refine pm_e_ret pm_a26_31 rfl rfl rfl rfl rfl rfl rfl rfl ?_
    show pm_E _ _ _ 5 [(0, .ref 0), (1, .int _)] [.null] _ _ _ _
    refine pm_e_sim pm_a36_5 rfl ?_
    show pm_E _ _ _ 6 [(2, .null), (0, .ref 0), (1, .int _)] [] _ _ _ _
    refine pm_e_sim pm_a36_6 rfl ?_
    show pm_E _ _ _ 7 [(2, .null), (0, .ref 0), (1, .int _)] [.null] _ _ _ _
    refine pm_e_jmp (pc2 := 10) pm_a36_7 rfl rfl ?_
    show pm_E _ _ _ 10 [(2, .null), (0, .ref 0), (1, .int _)] [] _ _ _ _
    refine pm_e_sim pm_a36_10 rfl ?_
    refine pm_e_top (y := (-1)) (by decide +kernel) ?_
    show pm_E _ _ _ 11 [(2, .null), (0, .ref 0), (1, .int _)] [.int (-1)] _ _ _ _
    refine pm_e_goto pm_a36_11 rfl ?_
    show pm_E _ _ _ 22 [(2, .null), (0, .ref 0), (1, .int _)] [.int (-1)] _ _ _ _
    refine pm_e_ret pm_a36_22 rfl rfl rfl rfl rfl rfl rfl rfl ?_
    show pm_E _ _ _ 571 [(3, .int 0), (2, .ref 18), (1, .ref 0), (0, .retAddr 0)] [.int (-1)] _ _ _ _
    refine pm_e_sim pm_a0_571 rfl ?_
    show pm_E _ _ _ 572 [(3, .int 0), (2, .ref 18), (1, .ref 0), (0, .retAddr 0)] [.ref 18, .int (-1)] _ _ _ _
    refine pm_e_sim pm_a0_572 rfl ?_
    show pm_E _ _ _ 573 [(3, .int 0), (2, .ref 18), (1, .ref 0), (0, .retAddr 0)] [.retAddr 0, .ref 18, .int (-1)] _ _ _ _
    refine pm_e_sim pm_a0_573 rfl ?_
    show pm_E _ _ _ 574 [(3, .int 0), (2, .ref 18), (1, .ref 0), (0, .retAddr 0)] [.int 0, .retAddr 0, .ref 18, .int (-1)] _ _ _ _
    refine pm_e_sim pm_a0_574 rfl ?_
    refine pm_e_top (y := 1) (by decide +kernel) ?_
    show pm_E _ _ _ 575 [(3, .int 0), (2, .ref 18), (1, .ref 0), (0, .retAddr 0)] [.int 1, .int 0, .retAddr 0, .ref 18, .int (-1)] _ _ _ _
    refine pm_e_sim pm_a0_575 rfl ?_
    refine pm_e_top (y := 1) (by decide +kernel) ?_
    show pm_E _ _ _ 576 [(3, .int 0), (2, .ref 18), (1, .ref 0), (0, .retAddr 0)] [.int 1, .retAddr 0, .ref 18, .int (-1)] _ _ _ _
    refine pm_e_sld (j := 1) pm_a0_576 (by decide +kernel) ?_
    show pm_E _ _ _ 577 [(3, .int 0), (2, .ref 18), (1, .ref 0), (0, .retAddr 0)] [.int _, .ref 18, .int (-1)] _ _ _ _
    refine pm_e_call (T2 := pm_mm71) pm_a0_577 rfl rfl rfl rfl rfl rfl rfl rfl rfl ?_
    show pm_E _ _ _ 0 [(0, .ref 18), (1, .int _)] [] _ _ _ _
    refine pm_e_sim pm_a71_0 rfl ?_
    show pm_E _ _ _ 1 [(0, .ref 18), (1, .int _)] [.ref 18] _ _ _ _
    refine pm_e_sim pm_a71_1 rfl ?_
    show pm_E _ _ _ 2 [(0, .ref 18), (1, .int _)] [.int _, .ref 18] _ _ _ _
    refine pm_e_call (T2 := pm_mm61) pm_a71_2 rfl rfl rfl rfl rfl rfl rfl rfl rfl ?_
    show pm_E _ _ _ 0 [(0, .ref 18), (1, .int _)] [] _ _ _ _
    refine pm_e_sim pm_a61_0 rfl ?_
    show pm_E _ _ _ 1 [(0, .ref 18), (1, .int _)] [.int _] _ _ _ _
    refine pm_e_sim pm_a61_1 rfl ?_
    show pm_E _ _ _ 2 [(0, .ref 18), (1, .int _)] [.long _] _ _ _ _
    refine pm_e_sim pm_a61_2 rfl ?_
    show pm_E _ _ _ 3 [(0, .ref 18), (1, .int _)] [.long _, .long _] _ _ _ _
    refine pm_e_sim pm_a61_3 rfl ?_
    show pm_E _ _ _ 4 [(0, .ref 18), (1, .int _)] [.ref 18, .long _, .long _] _ _ _ _
    refine pm_e_rd pm_a61_4 rfl rfl rfl ?_
    show pm_E _ _ _ 7 [(0, .ref 18), (1, .int _)] [.int 0, .long _, .long _] _ _ _ _
    refine pm_e_sim pm_a61_7 rfl ?_
    refine pm_e_top (y := 1) (by decide +kernel) ?_
    show pm_E _ _ _ 8 [(0, .ref 18), (1, .int _)] [.int 1, .int 0, .long _, .long _] _ _ _ _
    refine pm_e_sim pm_a61_8 rfl ?_
    refine pm_e_top (y := (-1)) (by decide +kernel) ?_
    show pm_E _ _ _ 9 [(0, .ref 18), (1, .int _)] [.int (-1), .long _, .long _] _ _ _ _
    refine pm_e_sim pm_a61_9 rfl ?_
    show pm_E _ _ _ 10 [(0, .ref 18), (1, .int _)] [.long _, .long _, .long _] _ _ _ _
    refine pm_e_call (T2 := pm_mm50) pm_a61_10 rfl rfl rfl rfl rfl rfl rfl rfl rfl ?_
    show pm_E _ _ _ 0 [(0, .long _), (2, .long _), (4, .long _)] [] _ _ _ _
    refine pm_e_sim pm_a50_0 rfl ?_
    show pm_E _ _ _ 1 [(0, .long _), (2, .long _), (4, .long _)] [.long _] _ _ _ _
    refine pm_e_sim pm_a50_1 rfl ?_
    show pm_E _ _ _ 2 [(0, .long _), (2, .long _), (4, .long _)] [.long _, .long _] _ _ _ _
    refine pm_e_sim pm_a50_2 rfl ?_
    show pm_E _ _ _ 3 [(0, .long _), (2, .long _), (4, .long _)] [.int _] _ _ _ _
    refine pm_e_iff pm_a50_3 rfl (pm_zl_eq 0 (by decide +kernel) (by omega) (by decide +kernel)) ?_
    show pm_E _ _ _ 6 [(0, .long _), (2, .long _), (4, .long _)] [] _ _ _ _
    refine pm_e_sim pm_a50_6 rfl ?_
    show pm_E _ _ _ 7 [(0, .long _), (2, .long _), (4, .long _)] [.long _] _ _ _ _
    refine pm_e_sim pm_a50_7 rfl ?_
    show pm_E _ _ _ 9 [(0, .long _), (2, .long _), (4, .long _)] [.long _, .long _] _ _ _ _
    refine pm_e_sim pm_a50_9 rfl ?_
    show pm_E _ _ _ 10 [(0, .long _), (2, .long _), (4, .long _)] [.int _] _ _ _ _
    refine pm_e_ift pm_a50_10 rfl (pm_zl_gt (-1) (by decide +kernel) (by omega) (by decide +kernel)) ?_
    show pm_E _ _ _ 17 [(0, .long _), (2, .long _), (4, .long _)] [] _ _ _ _
    refine pm_e_sim pm_a50_17 rfl ?_
    refine pm_e_top (y := 0) (by decide +kernel) ?_
    show pm_E _ _ _ 18 [(0, .long _), (2, .long _), (4, .long _)] [.int 0] _ _ _ _
    refine pm_e_ret pm_a50_18 rfl rfl rfl rfl rfl rfl rfl rfl ?_
    show pm_E _ _ _ 13 [(0, .ref 18), (1, .int _)] [.int 0] _ _ _ _
    refine pm_e_ret pm_a61_13 rfl rfl rfl rfl rfl rfl rfl rfl ?_
    show pm_E _ _ _ 5 [(0, .ref 18), (1, .int _)] [.int 0] _ _ _ _
    refine pm_e_iff pm_a71_5 rfl (by decide +kernel) ?_
    show pm_E _ _ _ 8 [(0, .ref 18), (1, .int _)] [] _ _ _ _
    refine pm_e_sim pm_a71_8 rfl ?_
    refine pm_e_top (y := (-1)) (by decide +kernel) ?_
    show pm_E _ _ _ 9 [(0, .ref 18), (1, .int _)] [.int (-1)] _ _ _ _
    refine pm_e_ret pm_a71_9 rfl rfl rfl rfl rfl rfl rfl rfl ?_
    show pm_E _ _ _ 580 [(3, .int 0), (2, .ref 18), (1, .ref 0), (0, .retAddr 0)] [.int (-1), .int (-1)] _ _ _ _
    refine pm_e_ict pm_a0_580 rfl (by decide +kernel) ?_
    show pm_E _ _ _ 779 [(3, .int 0), (2, .ref 18), (1, .ref 0), (0, .retAddr 0)] [] _ _ _ _
    refine pm_e_inc (y := 6) pm_a0_779 rfl (by decide +kernel) (by decide +kernel) rfl ?_
    show pm_E _ _ _ 782 [(3, .int 6), (2, .ref 18), (1, .ref 0), (0, .retAddr 0)] [] _ _ _ _
    refine pm_e_goto pm_a0_782 rfl ?_
    show pm_E _ _ _ 18 [(3, .int 6), (2, .ref 18), (1, .ref 0), (0, .retAddr 0)] [] _ _ _ _
    refine pm_e_sim pm_a0_18 rfl ?_
    show pm_E _ _ _ 19 [(3, .int 6), (2, .ref 18), (1, .ref 0), (0, .retAddr 0)] [.int 6] _ _ _ _
    refine pm_e_sim pm_a0_19 rfl ?_
    show pm_E _ _ _ 20 [(3, .int 6), (2, .ref 18), (1, .ref 0), (0, .retAddr 0)] [.retAddr 0, .int 6] _ _ _ _
    refine pm_e_rd pm_a0_20 rfl rfl rfl ?_
    dsimp only
    refine pm_e_top (y := 6) (by decide +kernel) ?_
    show pm_E _ _ _ 21 [(3, .int 6), (2, .ref 18), (1, .ref 0), (0, .retAddr 0)] [.int 6, .int 6] _ _ _ _
    refine pm_e_sim pm_a0_21 rfl ?_
    refine pm_e_top (y := 6) (by decide +kernel) ?_
    show pm_E _ _ _ 23 [(3, .int 6), (2, .ref 18), (1, .ref 0), (0, .retAddr 0)] [.int 6, .int 6, .int 6] _ _ _ _
    refine pm_e_sim pm_a0_23 rfl ?_
    refine pm_e_top (y := 0) (by decide +kernel) ?_
    show pm_E _ _ _ 24 [(3, .int 6), (2, .ref 18), (1, .ref 0), (0, .retAddr 0)] [.int 0, .int 6] _ _ _ _
    refine pm_e_ict pm_a0_24 rfl (by decide +kernel) ?_
    show pm_E _ _ _ 785 [(3, .int 6), (2, .ref 18), (1, .ref 0), (0, .retAddr 0)] [] _ _ _ _
    refine pm_e_sim pm_a0_785 rfl ?_
    refine pm_e_top (y := 1) (by decide +kernel) ?_
    show pm_E _ _ _ 786 [(3, .int 6), (2, .ref 18), (1, .ref 0), (0, .retAddr 0)] [.int 1] _ _ _ _
    refine pm_e_ret pm_a0_786 rfl rfl rfl rfl rfl rfl rfl rfl ?_
    exact hQ _ _ _ (by decide +kernel) (by decide +kernel)
  · refine pm_e_tsi (t := 562) pm_a0_33 rfl (by decide +kernel) ?_
    show pm_E _ _ _ 562 [(3, .int 0), (2, .ref 18), (1, .ref 0), (0, .retAddr 0)] [] _ _ _ _
    refine pm_e_sim pm_a0_562 rfl ?_
    show pm_E _ _ _ 563 [(3, .int 0), (2, .ref 18), (1, .ref 0), (0, .retAddr 0)] [.ref 0] _ _ _ _
    refine pm_e_sim pm_a0_563 rfl ?_
    show pm_E _ _ _ 564 [(3, .int 0), (2, .ref 18), (1, .ref 0), (0, .retAddr 0)] [.retAddr 0, .ref 0] _ _ _ _
    refine pm_e_sim pm_a0_564 rfl ?_
    show pm_E _ _ _ 565 [(3, .int 0), (2, .ref 18), (1, .ref 0), (0, .retAddr 0)] [.int 0, .retAddr 0, .ref 0] _ _ _ _
    refine pm_e_sim pm_a0_565 rfl ?_
    refine pm_e_top (y := 1) (by decide +kernel) ?_
    show pm_E _ _ _ 566 [(3, .int 0), (2, .ref 18), (1, .ref 0), (0, .retAddr 0)] [.int 1, .int 0, .retAddr 0, .ref 0] _ _ _ _
    refine pm_e_sim pm_a0_566 rfl ?_
    refine pm_e_top (y := 1) (by decide +kernel) ?_
    show pm_E _ _ _ 567 [(3, .int 0), (2, .ref 18), (1, .ref 0), (0, .retAddr 0)] [.int 1, .retAddr 0, .ref 0] _ _ _ _
    refine pm_e_sld (j := 1) pm_a0_567 (by decide +kernel) ?_
    show pm_E _ _ _ 568 [(3, .int 0), (2, .ref 18), (1, .ref 0), (0, .retAddr 0)] [.int _, .ref 0] _ _ _ _
    refine pm_e_call (T2 := pm_mm36) pm_a0_568 rfl rfl rfl rfl rfl rfl rfl rfl rfl ?_
    show pm_E _ _ _ 0 [(0, .ref 0), (1, .int _)] [] _ _ _ _
    refine pm_e_sim pm_a36_0 rfl ?_
    show pm_E _ _ _ 1 [(0, .ref 0), (1, .int _)] [.ref 0] _ _ _ _
    refine pm_e_sim pm_a36_1 rfl ?_
    show pm_E _ _ _ 2 [(0, .ref 0), (1, .int _)] [.int _, .ref 0] _ _ _ _
    refine pm_e_call (T2 := pm_mm26) pm_a36_2 rfl rfl rfl rfl rfl rfl rfl rfl rfl ?_
    show pm_E _ _ _ 0 [(0, .ref 0), (1, .int _)] [] _ _ _ _
    refine pm_e_sim pm_a26_0 rfl ?_
    show pm_E _ _ _ 1 [(0, .ref 0), (1, .int _)] [.int _] _ _ _ _
    refine pm_e_iff pm_a26_1 rfl (pm_z_lt_f 0 (by decide +kernel) (by omega)) ?_
    show pm_E _ _ _ 4 [(0, .ref 0), (1, .int _)] [] _ _ _ _
    refine pm_e_sim pm_a26_4 rfl ?_
    show pm_E _ _ _ 5 [(0, .ref 0), (1, .int _)] [.int _] _ _ _ _
    refine pm_e_sim pm_a26_5 rfl ?_
    show pm_E _ _ _ 6 [(0, .ref 0), (1, .int _)] [.ref 0, .int _] _ _ _ _
    refine pm_e_rd pm_a26_6 rfl rfl rfl ?_
    show pm_E _ _ _ 9 [(0, .ref 0), (1, .int _)] [.int 0, .int _] _ _ _ _
    refine pm_e_ict pm_a26_9 rfl (pm_z_ge_t 0 (by decide +kernel) (by omega)) ?_
    show pm_E _ _ _ 30 [(0, .ref 0), (1, .int _)] [] _ _ _ _
    refine pm_e_sim pm_a26_30 rfl ?_
    show pm_E _ _ _ 31 [(0, .ref 0), (1, .int _)] [.null] _ _ _ _
    refine pm_e_ret pm_a26_31 rfl rfl rfl rfl rfl rfl rfl rfl ?_
    show pm_E _ _ _ 5 [(0, .ref 0), (1, .int _)] [.null] _ _ _ _
    refine pm_e_sim pm_a36_5 rfl ?_
    show pm_E _ _ _ 6 [(2, .null), (0, .ref 0), (1, .int _)] [] _ _ _ _
    refine pm_e_sim pm_a36_6 rfl ?_
    show pm_E _ _ _ 7 [(2, .null), (0, .ref 0), (1, .int _)] [.null] _ _ _ _
    refine pm_e_jmp (pc2 := 10) pm_a36_7 rfl rfl ?_
    show pm_E _ _ _ 10 [(2, .null), (0, .ref 0), (1, .int _)] [] _ _ _ _
    refine pm_e_sim pm_a36_10 rfl ?_
    refine pm_e_top (y := (-1)) (by decide +kernel) ?_
    show pm_E _ _ _ 11 [(2, .null), (0, .ref 0), (1, .int _)] [.int (-1)] _ _ _ _
    refine pm_e_goto pm_a36_11 rfl ?_
    show pm_E _ _ _ 22 [(2, .null), (0, .ref 0), (1, .int _)] [.int (-1)] _ _ _ _
    refine pm_e_ret pm_a36_22 rfl rfl rfl rfl rfl rfl rfl rfl ?_
    show pm_E _ _ _ 571 [(3, .int 0), (2, .ref 18), (1, .ref 0), (0, .retAddr 0)] [.int (-1)] _ _ _ _
    refine pm_e_sim pm_a0_571 rfl ?_
    show pm_E _ _ _ 572 [(3, .int 0), (2, .ref 18), (1, .ref 0), (0, .retAddr 0)] [.ref 18, .int (-1)] _ _ _ _
    refine pm_e_sim pm_a0_572 rfl ?_
    show pm_E _ _ _ 573 [(3, .int 0), (2, .ref 18), (1, .ref 0), (0, .retAddr 0)] [.retAddr 0, .ref 18, .int (-1)] _ _ _ _
    refine pm_e_sim pm_a0_573 rfl ?_
    show pm_E _ _ _ 574 [(3, .int 0), (2, .ref 18), (1, .ref 0), (0, .retAddr 0)] [.int 0, .retAddr 0, .ref 18, .int (-1)] _ _ _ _
    refine pm_e_sim pm_a0_574 rfl ?_
    refine pm_e_top (y := 1) (by decide +kernel) ?_
    show pm_E _ _ _ 575 [(3, .int 0), (2, .ref 18), (1, .ref 0), (0, .retAddr 0)] [.int 1, .int 0, .retAddr 0, .ref 18, .int (-1)] _ _ _ _
    refine pm_e_sim pm_a0_575 rfl ?_
    refine pm_e_top (y := 1) (by decide +kernel) ?_
    show pm_E _ _ _ 576 [(3, .int 0), (2, .ref 18), (1, .ref 0), (0, .retAddr 0)] [.int 1, .retAddr 0, .ref 18, .int (-1)] _ _ _ _
    refine pm_e_sld (j := 1) pm_a0_576 (by decide +kernel) ?_
    show pm_E _ _ _ 577 [(3, .int 0), (2, .ref 18), (1, .ref 0), (0, .retAddr 0)] [.int _, .ref 18, .int (-1)] _ _ _ _
    refine pm_e_call (T2 := pm_mm71) pm_a0_577 rfl rfl rfl rfl rfl rfl rfl rfl rfl ?_
    show pm_E _ _ _ 0 [(0, .ref 18), (1, .int _)] [] _ _ _ _
    refine pm_e_sim pm_a71_0 rfl ?_
    show pm_E _ _ _ 1 [(0, .ref 18), (1, .int _)] [.ref 18] _ _ _ _
    refine pm_e_sim pm_a71_1 rfl ?_
    show pm_E _ _ _ 2 [(0, .ref 18), (1, .int _)] [.int _, .ref 18] _ _ _ _
    refine pm_e_call (T2 := pm_mm61) pm_a71_2 rfl rfl rfl rfl rfl rfl rfl rfl rfl ?_
    show pm_E _ _ _ 0 [(0, .ref 18), (1, .int _)] [] _ _ _ _
    refine pm_e_sim pm_a61_0 rfl ?_
    show pm_E _ _ _ 1 [(0, .ref 18), (1, .int _)] [.int _] _ _ _ _
    refine pm_e_sim pm_a61_1 rfl ?_
    show pm_E _ _ _ 2 [(0, .ref 18), (1, .int _)] [.long _] _ _ _ _
    refine pm_e_sim pm_a61_2 rfl ?_
    show pm_E _ _ _ 3 [(0, .ref 18), (1, .int _)] [.long _, .long _] _ _ _ _
    refine pm_e_sim pm_a61_3 rfl ?_
    show pm_E _ _ _ 4 [(0, .ref 18), (1, .int _)] [.ref 18, .long _, .long _] _ _ _ _
    refine pm_e_rd pm_a61_4 rfl rfl rfl ?_
    show pm_E _ _ _ 7 [(0, .ref 18), (1, .int _)] [.int 0, .long _, .long _] _ _ _ _
    refine pm_e_sim pm_a61_7 rfl ?_
    refine pm_e_top (y := 1) (by decide +kernel) ?_
    show pm_E _ _ _ 8 [(0, .ref 18), (1, .int _)] [.int 1, .int 0, .long _, .long _] _ _ _ _
    refine pm_e_sim pm_a61_8 rfl ?_
    refine pm_e_top (y := (-1)) (by decide +kernel) ?_
    show pm_E _ _ _ 9 [(0, .ref 18), (1, .int _)] [.int (-1), .long _, .long _] _ _ _ _
    refine pm_e_sim pm_a61_9 rfl ?_
    show pm_E _ _ _ 10 [(0, .ref 18), (1, .int _)] [.long _, .long _, .long _] _ _ _ _
    refine pm_e_call (T2 := pm_mm50) pm_a61_10 rfl rfl rfl rfl rfl rfl rfl rfl rfl ?_
    show pm_E _ _ _ 0 [(0, .long _), (2, .long _), (4, .long _)] [] _ _ _ _
    refine pm_e_sim pm_a50_0 rfl ?_
    show pm_E _ _ _ 1 [(0, .long _), (2, .long _), (4, .long _)] [.long _] _ _ _ _
    refine pm_e_sim pm_a50_1 rfl ?_
    show pm_E _ _ _ 2 [(0, .long _), (2, .long _), (4, .long _)] [.long _, .long _] _ _ _ _
    refine pm_e_sim pm_a50_2 rfl ?_
    show pm_E _ _ _ 3 [(0, .long _), (2, .long _), (4, .long _)] [.int _] _ _ _ _
    refine pm_e_iff pm_a50_3 rfl (pm_zl_gt 0 (by decide +kernel) (by omega) (by decide +kernel)) ?_
    show pm_E _ _ _ 6 [(0, .long _), (2, .long _), (4, .long _)] [] _ _ _ _
    refine pm_e_sim pm_a50_6 rfl ?_
    show pm_E _ _ _ 7 [(0, .long _), (2, .long _), (4, .long _)] [.long _] _ _ _ _
    refine pm_e_sim pm_a50_7 rfl ?_
    show pm_E _ _ _ 9 [(0, .long _), (2, .long _), (4, .long _)] [.long _, .long _] _ _ _ _
    refine pm_e_sim pm_a50_9 rfl ?_
    show pm_E _ _ _ 10 [(0, .long _), (2, .long _), (4, .long _)] [.int _] _ _ _ _
    refine pm_e_ift pm_a50_10 rfl (pm_zl_gt (-1) (by decide +kernel) (by omega) (by decide +kernel)) ?_
    show pm_E _ _ _ 17 [(0, .long _), (2, .long _), (4, .long _)] [] _ _ _ _
    refine pm_e_sim pm_a50_17 rfl ?_
    refine pm_e_top (y := 0) (by decide +kernel) ?_
    show pm_E _ _ _ 18 [(0, .long _), (2, .long _), (4, .long _)] [.int 0] _ _ _ _
    refine pm_e_ret pm_a50_18 rfl rfl rfl rfl rfl rfl rfl rfl ?_
    show pm_E _ _ _ 13 [(0, .ref 18), (1, .int _)] [.int 0] _ _ _ _
    refine pm_e_ret pm_a61_13 rfl rfl rfl rfl rfl rfl rfl rfl ?_
    show pm_E _ _ _ 5 [(0, .ref 18), (1, .int _)] [.int 0] _ _ _ _
    refine pm_e_iff pm_a71_5 rfl (by decide +kernel) ?_
    show pm_E _ _ _ 8 [(0, .ref 18), (1, .int _)] [] _ _ _ _
    refine pm_e_sim pm_a71_8 rfl ?_
    refine pm_e_top (y := (-1)) (by decide +kernel) ?_
    show pm_E _ _ _ 9 [(0, .ref 18), (1, .int _)] [.int (-1)] _ _ _ _
    refine pm_e_ret pm_a71_9 rfl rfl rfl rfl rfl rfl rfl rfl ?_
    show pm_E _ _ _ 580 [(3, .int 0), (2, .ref 18), (1, .ref 0), (0, .retAddr 0)] [.int (-1), .int (-1)] _ _ _ _
    refine pm_e_ict pm_a0_580 rfl (by decide +kernel) ?_
    show pm_E _ _ _ 779 [(3, .int 0), (2, .ref 18), (1, .ref 0), (0, .retAddr 0)] [] _ _ _ _
    refine pm_e_inc (y := 6) pm_a0_779 rfl (by decide +kernel) (by decide +kernel) rfl ?_
    show pm_E _ _ _ 782 [(3, .int 6), (2, .ref 18), (1, .ref 0), (0, .retAddr 0)] [] _ _ _ _
    refine pm_e_goto pm_a0_782 rfl ?_
    show pm_E _ _ _ 18 [(3, .int 6), (2, .ref 18), (1, .ref 0), (0, .retAddr 0)] [] _ _ _ _
    refine pm_e_sim pm_a0_18 rfl ?_
    show pm_E _ _ _ 19 [(3, .int 6), (2, .ref 18), (1, .ref 0), (0, .retAddr 0)] [.int 6] _ _ _ _
    refine pm_e_sim pm_a0_19 rfl ?_
    show pm_E _ _ _ 20 [(3, .int 6), (2, .ref 18), (1, .ref 0), (0, .retAddr 0)] [.retAddr 0, .int 6] _ _ _ _
    refine pm_e_rd pm_a0_20 rfl rfl rfl ?_
    dsimp only
    refine pm_e_top (y := 6) (by decide +kernel) ?_
    show pm_E _ _ _ 21 [(3, .int 6), (2, .ref 18), (1, .ref 0), (0, .retAddr 0)] [.int 6, .int 6] _ _ _ _
    refine pm_e_sim pm_a0_21 rfl ?_
    refine pm_e_top (y := 6) (by decide +kernel) ?_
    show pm_E _ _ _ 23 [(3, .int 6), (2, .ref 18), (1, .ref 0), (0, .retAddr 0)] [.int 6, .int 6, .int 6] _ _ _ _
    refine pm_e_sim pm_a0_23 rfl ?_
    refine pm_e_top (y := 0) (by decide +kernel) ?_
    show pm_E _ _ _ 24 [(3, .int 6), (2, .ref 18), (1, .ref 0), (0, .retAddr 0)] [.int 0, .int 6] _ _ _ _
    refine pm_e_ict pm_a0_24 rfl (by decide +kernel) ?_
    show pm_E _ _ _ 785 [(3, .int 6), (2, .ref 18), (1, .ref 0), (0, .retAddr 0)] [] _ _ _ _
    refine pm_e_sim pm_a0_785 rfl ?_
    refine pm_e_top (y := 1) (by decide +kernel) ?_
    show pm_E _ _ _ 786 [(3, .int 6), (2, .ref 18), (1, .ref 0), (0, .retAddr 0)] [.int 1] _ _ _ _
    refine pm_e_ret pm_a0_786 rfl rfl rfl rfl rfl rfl rfl rfl ?_
    exact hQ _ _ _ (by decide +kernel) (by decide +kernel)
set_option maxHeartbeats 40000000 in
set_option maxRecDepth 200000 in
theorem pm_op15 (xs : Nat → Int32) {Q : Option Value → List va_E → Nat → Nat → Prop} (hQ : ∀ ph c n, c ≤ 600000 → n ≤ 7302250 → Q (some (.int 1)) ph c n) : pm_E (some (6, xs)) 11 pm_mm0 33 pm_L0 [.int (nI 15)] pm_H0 50 194358 Q := by
  refine pm_e_top (y := 15) (by decide +kernel) ?_
  rcases (show (xs 1).toInt < 0 ∨ (xs 1).toInt = 0 ∨ 0 < (xs 1).toInt by omega) with h1 | h1 | h1
  · refine pm_e_tsi (t := 585) pm_a0_33 rfl (by decide +kernel) ?_
    show pm_E _ _ _ 585 [(3, .int 0), (2, .ref 18), (1, .ref 0), (0, .retAddr 0)] [] _ _ _ _
    refine pm_e_sim pm_a0_585 rfl ?_
    show pm_E _ _ _ 586 [(3, .int 0), (2, .ref 18), (1, .ref 0), (0, .retAddr 0)] [.ref 0] _ _ _ _
    refine pm_e_sim pm_a0_586 rfl ?_
    show pm_E _ _ _ 587 [(3, .int 0), (2, .ref 18), (1, .ref 0), (0, .retAddr 0)] [.retAddr 0, .ref 0] _ _ _ _
    refine pm_e_sim pm_a0_587 rfl ?_
    show pm_E _ _ _ 588 [(3, .int 0), (2, .ref 18), (1, .ref 0), (0, .retAddr 0)] [.int 0, .retAddr 0, .ref 0] _ _ _ _
    refine pm_e_sim pm_a0_588 rfl ?_
    refine pm_e_top (y := 1) (by decide +kernel) ?_
    show pm_E _ _ _ 589 [(3, .int 0), (2, .ref 18), (1, .ref 0), (0, .retAddr 0)] [.int 1, .int 0, .retAddr 0, .ref 0] _ _ _ _
    refine pm_e_sim pm_a0_589 rfl ?_
    refine pm_e_top (y := 1) (by decide +kernel) ?_
    show pm_E _ _ _ 590 [(3, .int 0), (2, .ref 18), (1, .ref 0), (0, .retAddr 0)] [.int 1, .retAddr 0, .ref 0] _ _ _ _
    refine pm_e_sld (j := 1) pm_a0_590 (by decide +kernel) ?_
    show pm_E _ _ _ 591 [(3, .int 0), (2, .ref 18), (1, .ref 0), (0, .retAddr 0)] [.int _, .ref 0] _ _ _ _
    refine pm_e_call (T2 := pm_mm37) pm_a0_591 rfl rfl rfl rfl rfl rfl rfl rfl rfl ?_
    show pm_E _ _ _ 0 [(0, .ref 0), (1, .int _)] [] _ _ _ _
    refine pm_e_sim pm_a37_0 rfl ?_
    show pm_E _ _ _ 1 [(0, .ref 0), (1, .int _)] [.ref 0] _ _ _ _
    refine pm_e_sim pm_a37_1 rfl ?_
    show pm_E _ _ _ 2 [(0, .ref 0), (1, .int _)] [.int _, .ref 0] _ _ _ _
    refine pm_e_call (T2 := pm_mm26) pm_a37_2 rfl rfl rfl rfl rfl rfl rfl rfl rfl ?_
    show pm_E _ _ _ 0 [(0, .ref 0), (1, .int _)] [] _ _ _ _
    refine pm_e_sim pm_a26_0 rfl ?_
    show pm_E _ _ _ 1 [(0, .ref 0), (1, .int _)] [.int _] _ _ _ _
    refine pm_e_ift pm_a26_1 rfl (pm_z_lt_t 0 (by decide +kernel) (by omega)) ?_
    show pm_E _ _ _ 30 [(0, .ref 0), (1, .int _)] [] _ _ _ _
    refine pm_e_sim pm_a26_30 rfl ?_
    show pm_E _ _ _ 31 [(0, .ref 0), (1, .int _)] [.null] _ _ _ _
    refine pm_e_ret pm_a26_31 rfl rfl rfl rfl rfl rfl rfl rfl ?_
    show pm_E _ _ _ 5 [(0, .ref 0), (1, .int _)] [.null] _ _ _ _
    refine pm_e_sim pm_a37_5 rfl ?_
    show pm_E _ _ _ 6 [(2, .null), (0, .ref 0), (1, .int _)] [] _ _ _ _
    refine pm_e_sim pm_a37_6 rfl ?_
    show pm_E _ _ _ 7 [(2, .null), (0, .ref 0), (1, .int _)] [.null] _ _ _ _
    refine pm_e_jmp (pc2 := 10) pm_a37_7 rfl rfl ?_
    show pm_E _ _ _ 10 [(2, .null), (0, .ref 0), (1, .int _)] [] _ _ _ _
    refine pm_e_sim pm_a37_10 rfl ?_
    refine pm_e_top (y := (-1)) (by decide +kernel) ?_
    show pm_E _ _ _ 11 [(2, .null), (0, .ref 0), (1, .int _)] [.int (-1)] _ _ _ _
    refine pm_e_ret pm_a37_11 rfl rfl rfl rfl rfl rfl rfl rfl ?_
    show pm_E _ _ _ 594 [(3, .int 0), (2, .ref 18), (1, .ref 0), (0, .retAddr 0)] [.int (-1)] _ _ _ _
    refine pm_e_sim pm_a0_594 rfl ?_
    show pm_E _ _ _ 595 [(3, .int 0), (2, .ref 18), (1, .ref 0), (0, .retAddr 0)] [.ref 18, .int (-1)] _ _ _ _
    refine pm_e_sim pm_a0_595 rfl ?_
    show pm_E _ _ _ 596 [(3, .int 0), (2, .ref 18), (1, .ref 0), (0, .retAddr 0)] [.retAddr 0, .ref 18, .int (-1)] _ _ _ _
    refine pm_e_sim pm_a0_596 rfl ?_
    show pm_E _ _ _ 597 [(3, .int 0), (2, .ref 18), (1, .ref 0), (0, .retAddr 0)] [.int 0, .retAddr 0, .ref 18, .int (-1)] _ _ _ _
    refine pm_e_sim pm_a0_597 rfl ?_
    refine pm_e_top (y := 1) (by decide +kernel) ?_
    show pm_E _ _ _ 598 [(3, .int 0), (2, .ref 18), (1, .ref 0), (0, .retAddr 0)] [.int 1, .int 0, .retAddr 0, .ref 18, .int (-1)] _ _ _ _
    refine pm_e_sim pm_a0_598 rfl ?_
    refine pm_e_top (y := 1) (by decide +kernel) ?_
    show pm_E _ _ _ 599 [(3, .int 0), (2, .ref 18), (1, .ref 0), (0, .retAddr 0)] [.int 1, .retAddr 0, .ref 18, .int (-1)] _ _ _ _
    refine pm_e_sld (j := 1) pm_a0_599 (by decide +kernel) ?_
    show pm_E _ _ _ 600 [(3, .int 0), (2, .ref 18), (1, .ref 0), (0, .retAddr 0)] [.int _, .ref 18, .int (-1)] _ _ _ _
    refine pm_e_call (T2 := pm_mm72) pm_a0_600 rfl rfl rfl rfl rfl rfl rfl rfl rfl ?_
    show pm_E _ _ _ 0 [(0, .ref 18), (1, .int _)] [] _ _ _ _
    refine pm_e_sim pm_a72_0 rfl ?_
    show pm_E _ _ _ 1 [(0, .ref 18), (1, .int _)] [.ref 18] _ _ _ _
    refine pm_e_sim pm_a72_1 rfl ?_
    show pm_E _ _ _ 2 [(0, .ref 18), (1, .int _)] [.int _, .ref 18] _ _ _ _
    refine pm_e_call (T2 := pm_mm61) pm_a72_2 rfl rfl rfl rfl rfl rfl rfl rfl rfl ?_
    show pm_E _ _ _ 0 [(0, .ref 18), (1, .int _)] [] _ _ _ _
    refine pm_e_sim pm_a61_0 rfl ?_
    show pm_E _ _ _ 1 [(0, .ref 18), (1, .int _)] [.int _] _ _ _ _
    refine pm_e_sim pm_a61_1 rfl ?_
    show pm_E _ _ _ 2 [(0, .ref 18), (1, .int _)] [.long _] _ _ _ _
    refine pm_e_sim pm_a61_2 rfl ?_
    show pm_E _ _ _ 3 [(0, .ref 18), (1, .int _)] [.long _, .long _] _ _ _ _
    refine pm_e_sim pm_a61_3 rfl ?_
    show pm_E _ _ _ 4 [(0, .ref 18), (1, .int _)] [.ref 18, .long _, .long _] _ _ _ _
    refine pm_e_rd pm_a61_4 rfl rfl rfl ?_
    show pm_E _ _ _ 7 [(0, .ref 18), (1, .int _)] [.int 0, .long _, .long _] _ _ _ _
    refine pm_e_sim pm_a61_7 rfl ?_
    refine pm_e_top (y := 1) (by decide +kernel) ?_
    show pm_E _ _ _ 8 [(0, .ref 18), (1, .int _)] [.int 1, .int 0, .long _, .long _] _ _ _ _
    refine pm_e_sim pm_a61_8 rfl ?_
    refine pm_e_top (y := (-1)) (by decide +kernel) ?_
    show pm_E _ _ _ 9 [(0, .ref 18), (1, .int _)] [.int (-1), .long _, .long _] _ _ _ _
    refine pm_e_sim pm_a61_9 rfl ?_
    show pm_E _ _ _ 10 [(0, .ref 18), (1, .int _)] [.long _, .long _, .long _] _ _ _ _
    refine pm_e_call (T2 := pm_mm50) pm_a61_10 rfl rfl rfl rfl rfl rfl rfl rfl rfl ?_
    show pm_E _ _ _ 0 [(0, .long _), (2, .long _), (4, .long _)] [] _ _ _ _
    refine pm_e_sim pm_a50_0 rfl ?_
    show pm_E _ _ _ 1 [(0, .long _), (2, .long _), (4, .long _)] [.long _] _ _ _ _
    refine pm_e_sim pm_a50_1 rfl ?_
    show pm_E _ _ _ 2 [(0, .long _), (2, .long _), (4, .long _)] [.long _, .long _] _ _ _ _
    refine pm_e_sim pm_a50_2 rfl ?_
    show pm_E _ _ _ 3 [(0, .long _), (2, .long _), (4, .long _)] [.int _] _ _ _ _
    refine pm_e_ift pm_a50_3 rfl (pm_zl_lt 0 (by decide +kernel) (by omega) (by decide +kernel)) ?_
    show pm_E _ _ _ 17 [(0, .long _), (2, .long _), (4, .long _)] [] _ _ _ _
    refine pm_e_sim pm_a50_17 rfl ?_
    refine pm_e_top (y := 0) (by decide +kernel) ?_
    show pm_E _ _ _ 18 [(0, .long _), (2, .long _), (4, .long _)] [.int 0] _ _ _ _
    refine pm_e_ret pm_a50_18 rfl rfl rfl rfl rfl rfl rfl rfl ?_
    show pm_E _ _ _ 13 [(0, .ref 18), (1, .int _)] [.int 0] _ _ _ _
    refine pm_e_ret pm_a61_13 rfl rfl rfl rfl rfl rfl rfl rfl ?_
    show pm_E _ _ _ 5 [(0, .ref 18), (1, .int _)] [.int 0] _ _ _ _
    refine pm_e_iff pm_a72_5 rfl (by decide +kernel) ?_
    show pm_E _ _ _ 8 [(0, .ref 18), (1, .int _)] [] _ _ _ _
    refine pm_e_sim pm_a72_8 rfl ?_
    refine pm_e_top (y := (-1)) (by decide +kernel) ?_
    show pm_E _ _ _ 9 [(0, .ref 18), (1, .int _)] [.int (-1)] _ _ _ _
    refine pm_e_ret pm_a72_9 rfl rfl rfl rfl rfl rfl rfl rfl ?_
    show pm_E _ _ _ 603 [(3, .int 0), (2, .ref 18), (1, .ref 0), (0, .retAddr 0)] [.int (-1), .int (-1)] _ _ _ _
    refine pm_e_ict pm_a0_603 rfl (by decide +kernel) ?_
    show pm_E _ _ _ 779 [(3, .int 0), (2, .ref 18), (1, .ref 0), (0, .retAddr 0)] [] _ _ _ _
    refine pm_e_inc (y := 6) pm_a0_779 rfl (by decide +kernel) (by decide +kernel) rfl ?_
    show pm_E _ _ _ 782 [(3, .int 6), (2, .ref 18), (1, .ref 0), (0, .retAddr 0)] [] _ _ _ _
    refine pm_e_goto pm_a0_782 rfl ?_
    show pm_E _ _ _ 18 [(3, .int 6), (2, .ref 18), (1, .ref 0), (0, .retAddr 0)] [] _ _ _ _
    refine pm_e_sim pm_a0_18 rfl ?_
    show pm_E _ _ _ 19 [(3, .int 6), (2, .ref 18), (1, .ref 0), (0, .retAddr 0)] [.int 6] _ _ _ _
    refine pm_e_sim pm_a0_19 rfl ?_
    show pm_E _ _ _ 20 [(3, .int 6), (2, .ref 18), (1, .ref 0), (0, .retAddr 0)] [.retAddr 0, .int 6] _ _ _ _
    refine pm_e_rd pm_a0_20 rfl rfl rfl ?_
    dsimp only
    refine pm_e_top (y := 6) (by decide +kernel) ?_
    show pm_E _ _ _ 21 [(3, .int 6), (2, .ref 18), (1, .ref 0), (0, .retAddr 0)] [.int 6, .int 6] _ _ _ _
    refine pm_e_sim pm_a0_21 rfl ?_
    refine pm_e_top (y := 6) (by decide +kernel) ?_
    show pm_E _ _ _ 23 [(3, .int 6), (2, .ref 18), (1, .ref 0), (0, .retAddr 0)] [.int 6, .int 6, .int 6] _ _ _ _
    refine pm_e_sim pm_a0_23 rfl ?_
    refine pm_e_top (y := 0) (by decide +kernel) ?_
    show pm_E _ _ _ 24 [(3, .int 6), (2, .ref 18), (1, .ref 0), (0, .retAddr 0)] [.int 0, .int 6] _ _ _ _
    refine pm_e_ict pm_a0_24 rfl (by decide +kernel) ?_
    show pm_E _ _ _ 785 [(3, .int 6), (2, .ref 18), (1, .ref 0), (0, .retAddr 0)] [] _ _ _ _
    refine pm_e_sim pm_a0_785 rfl ?_
    refine pm_e_top (y := 1) (by decide +kernel) ?_
    show pm_E _ _ _ 786 [(3, .int 6), (2, .ref 18), (1, .ref 0), (0, .retAddr 0)] [.int 1] _ _ _ _
    refine pm_e_ret pm_a0_786 rfl rfl rfl rfl rfl rfl rfl rfl ?_
    exact hQ _ _ _ (by decide +kernel) (by decide +kernel)
  · refine pm_e_tsi (t := 585) pm_a0_33 rfl (by decide +kernel) ?_
    show pm_E _ _ _ 585 [(3, .int 0), (2, .ref 18), (1, .ref 0), (0, .retAddr 0)] [] _ _ _ _
    refine pm_e_sim pm_a0_585 rfl ?_
    show pm_E _ _ _ 586 [(3, .int 0), (2, .ref 18), (1, .ref 0), (0, .retAddr 0)] [.ref 0] _ _ _ _
    refine pm_e_sim pm_a0_586 rfl ?_
    show pm_E _ _ _ 587 [(3, .int 0), (2, .ref 18), (1, .ref 0), (0, .retAddr 0)] [.retAddr 0, .ref 0] _ _ _ _
    refine pm_e_sim pm_a0_587 rfl ?_
    show pm_E _ _ _ 588 [(3, .int 0), (2, .ref 18), (1, .ref 0), (0, .retAddr 0)] [.int 0, .retAddr 0, .ref 0] _ _ _ _
    refine pm_e_sim pm_a0_588 rfl ?_
    refine pm_e_top (y := 1) (by decide +kernel) ?_
    show pm_E _ _ _ 589 [(3, .int 0), (2, .ref 18), (1, .ref 0), (0, .retAddr 0)] [.int 1, .int 0, .retAddr 0, .ref 0] _ _ _ _
    refine pm_e_sim pm_a0_589 rfl ?_
    refine pm_e_top (y := 1) (by decide +kernel) ?_
    show pm_E _ _ _ 590 [(3, .int 0), (2, .ref 18), (1, .ref 0), (0, .retAddr 0)] [.int 1, .retAddr 0, .ref 0] _ _ _ _
    refine pm_e_sld (j := 1) pm_a0_590 (by decide +kernel) ?_
    show pm_E _ _ _ 591 [(3, .int 0), (2, .ref 18), (1, .ref 0), (0, .retAddr 0)] [.int _, .ref 0] _ _ _ _
    refine pm_e_call (T2 := pm_mm37) pm_a0_591 rfl rfl rfl rfl rfl rfl rfl rfl rfl ?_
    show pm_E _ _ _ 0 [(0, .ref 0), (1, .int _)] [] _ _ _ _
    refine pm_e_sim pm_a37_0 rfl ?_
    show pm_E _ _ _ 1 [(0, .ref 0), (1, .int _)] [.ref 0] _ _ _ _
    refine pm_e_sim pm_a37_1 rfl ?_
    show pm_E _ _ _ 2 [(0, .ref 0), (1, .int _)] [.int _, .ref 0] _ _ _ _
    refine pm_e_call (T2 := pm_mm26) pm_a37_2 rfl rfl rfl rfl rfl rfl rfl rfl rfl ?_
    show pm_E _ _ _ 0 [(0, .ref 0), (1, .int _)] [] _ _ _ _
    refine pm_e_sim pm_a26_0 rfl ?_
    show pm_E _ _ _ 1 [(0, .ref 0), (1, .int _)] [.int _] _ _ _ _
    refine pm_e_iff pm_a26_1 rfl (pm_z_lt_f 0 (by decide +kernel) (by omega)) ?_
    show pm_E _ _ _ 4 [(0, .ref 0), (1, .int _)] [] _ _ _ _
    refine pm_e_sim pm_a26_4 rfl ?_
    show pm_E _ _ _ 5 [(0, .ref 0), (1, .int _)] [.int _] _ _ _ _
    refine pm_e_sim pm_a26_5 rfl ?_
    show pm_E _ _ _ 6 [(0, .ref 0), (1, .int _)] [.ref 0, .int _] _ _ _ _
    refine pm_e_rd pm_a26_6 rfl rfl rfl ?_
    show pm_E _ _ _ 9 [(0, .ref 0), (1, .int _)] [.int 0, .int _] _ _ _ _
    refine pm_e_ict pm_a26_9 rfl (pm_z_ge_t 0 (by decide +kernel) (by omega)) ?_
    show pm_E _ _ _ 30 [(0, .ref 0), (1, .int _)] [] _ _ _ _
    refine pm_e_sim pm_a26_30 rfl ?_
    show pm_E _ _ _ 31 [(0, .ref 0), (1, .int _)] [.null] _ _ _ _
    refine pm_e_ret pm_a26_31 rfl rfl rfl rfl rfl rfl rfl rfl ?_
    show pm_E _ _ _ 5 [(0, .ref 0), (1, .int _)] [.null] _ _ _ _
    refine pm_e_sim pm_a37_5 rfl ?_
    show pm_E _ _ _ 6 [(2, .null), (0, .ref 0), (1, .int _)] [] _ _ _ _
    refine pm_e_sim pm_a37_6 rfl ?_
    show pm_E _ _ _ 7 [(2, .null), (0, .ref 0), (1, .int _)] [.null] _ _ _ _
    refine pm_e_jmp (pc2 := 10) pm_a37_7 rfl rfl ?_
    show pm_E _ _ _ 10 [(2, .null), (0, .ref 0), (1, .int _)] [] _ _ _ _
    refine pm_e_sim pm_a37_10 rfl ?_
    refine pm_e_top (y := (-1)) (by decide +kernel) ?_
    show pm_E _ _ _ 11 [(2, .null), (0, .ref 0), (1, .int _)] [.int (-1)] _ _ _ _
    refine pm_e_ret pm_a37_11 rfl rfl rfl rfl rfl rfl rfl rfl ?_
    show pm_E _ _ _ 594 [(3, .int 0), (2, .ref 18), (1, .ref 0), (0, .retAddr 0)] [.int (-1)] _ _ _ _
    refine pm_e_sim pm_a0_594 rfl ?_
    show pm_E _ _ _ 595 [(3, .int 0), (2, .ref 18), (1, .ref 0), (0, .retAddr 0)] [.ref 18, .int (-1)] _ _ _ _
    refine pm_e_sim pm_a0_595 rfl ?_
    show pm_E _ _ _ 596 [(3, .int 0), (2, .ref 18), (1, .ref 0), (0, .retAddr 0)] [.retAddr 0, .ref 18, .int (-1)] _ _ _ _
    refine pm_e_sim pm_a0_596 rfl ?_
    show pm_E _ _ _ 597 [(3, .int 0), (2, .ref 18), (1, .ref 0), (0, .retAddr 0)] [.int 0, .retAddr 0, .ref 18, .int (-1)] _ _ _ _
    refine pm_e_sim pm_a0_597 rfl ?_
    refine pm_e_top (y := 1) (by decide +kernel) ?_
    show pm_E _ _ _ 598 [(3, .int 0), (2, .ref 18), (1, .ref 0), (0, .retAddr 0)] [.int 1, .int 0, .retAddr 0, .ref 18, .int (-1)] _ _ _ _
    refine pm_e_sim pm_a0_598 rfl ?_
    refine pm_e_top (y := 1) (by decide +kernel) ?_
    show pm_E _ _ _ 599 [(3, .int 0), (2, .ref 18), (1, .ref 0), (0, .retAddr 0)] [.int 1, .retAddr 0, .ref 18, .int (-1)] _ _ _ _
    refine pm_e_sld (j := 1) pm_a0_599 (by decide +kernel) ?_
    show pm_E _ _ _ 600 [(3, .int 0), (2, .ref 18), (1, .ref 0), (0, .retAddr 0)] [.int _, .ref 18, .int (-1)] _ _ _ _
    refine pm_e_call (T2 := pm_mm72) pm_a0_600 rfl rfl rfl rfl rfl rfl rfl rfl rfl ?_
    show pm_E _ _ _ 0 [(0, .ref 18), (1, .int _)] [] _ _ _ _
    refine pm_e_sim pm_a72_0 rfl ?_
    show pm_E _ _ _ 1 [(0, .ref 18), (1, .int _)] [.ref 18] _ _ _ _
    refine pm_e_sim pm_a72_1 rfl ?_
    show pm_E _ _ _ 2 [(0, .ref 18), (1, .int _)] [.int _, .ref 18] _ _ _ _
    refine pm_e_call (T2 := pm_mm61) pm_a72_2 rfl rfl rfl rfl rfl rfl rfl rfl rfl ?_
    show pm_E _ _ _ 0 [(0, .ref 18), (1, .int _)] [] _ _ _ _
    refine pm_e_sim pm_a61_0 rfl ?_
    show pm_E _ _ _ 1 [(0, .ref 18), (1, .int _)] [.int _] _ _ _ _
    refine pm_e_sim pm_a61_1 rfl ?_
    show pm_E _ _ _ 2 [(0, .ref 18), (1, .int _)] [.long _] _ _ _ _
    refine pm_e_sim pm_a61_2 rfl ?_
    show pm_E _ _ _ 3 [(0, .ref 18), (1, .int _)] [.long _, .long _] _ _ _ _
    refine pm_e_sim pm_a61_3 rfl ?_
    show pm_E _ _ _ 4 [(0, .ref 18), (1, .int _)] [.ref 18, .long _, .long _] _ _ _ _
    refine pm_e_rd pm_a61_4 rfl rfl rfl ?_
    show pm_E _ _ _ 7 [(0, .ref 18), (1, .int _)] [.int 0, .long _, .long _] _ _ _ _
    refine pm_e_sim pm_a61_7 rfl ?_
    refine pm_e_top (y := 1) (by decide +kernel) ?_
    show pm_E _ _ _ 8 [(0, .ref 18), (1, .int _)] [.int 1, .int 0, .long _, .long _] _ _ _ _
    refine pm_e_sim pm_a61_8 rfl ?_
    refine pm_e_top (y := (-1)) (by decide +kernel) ?_
    show pm_E _ _ _ 9 [(0, .ref 18), (1, .int _)] [.int (-1), .long _, .long _] _ _ _ _
    refine pm_e_sim pm_a61_9 rfl ?_
    show pm_E _ _ _ 10 [(0, .ref 18), (1, .int _)] [.long _, .long _, .long _] _ _ _ _
    refine pm_e_call (T2 := pm_mm50) pm_a61_10 rfl rfl rfl rfl rfl rfl rfl rfl rfl ?_
    show pm_E _ _ _ 0 [(0, .long _), (2, .long _), (4, .long _)] [] _ _ _ _
    refine pm_e_sim pm_a50_0 rfl ?_
    show pm_E _ _ _ 1 [(0, .long _), (2, .long _), (4, .long _)] [.long _] _ _ _ _
    refine pm_e_sim pm_a50_1 rfl ?_
    show pm_E _ _ _ 2 [(0, .long _), (2, .long _), (4, .long _)] [.long _, .long _] _ _ _ _
    refine pm_e_sim pm_a50_2 rfl ?_
    show pm_E _ _ _ 3 [(0, .long _), (2, .long _), (4, .long _)] [.int _] _ _ _ _
    refine pm_e_iff pm_a50_3 rfl (pm_zl_eq 0 (by decide +kernel) (by omega) (by decide +kernel)) ?_
    show pm_E _ _ _ 6 [(0, .long _), (2, .long _), (4, .long _)] [] _ _ _ _
    refine pm_e_sim pm_a50_6 rfl ?_
    show pm_E _ _ _ 7 [(0, .long _), (2, .long _), (4, .long _)] [.long _] _ _ _ _
    refine pm_e_sim pm_a50_7 rfl ?_
    show pm_E _ _ _ 9 [(0, .long _), (2, .long _), (4, .long _)] [.long _, .long _] _ _ _ _
    refine pm_e_sim pm_a50_9 rfl ?_
    show pm_E _ _ _ 10 [(0, .long _), (2, .long _), (4, .long _)] [.int _] _ _ _ _
    refine pm_e_ift pm_a50_10 rfl (pm_zl_gt (-1) (by decide +kernel) (by omega) (by decide +kernel)) ?_
    show pm_E _ _ _ 17 [(0, .long _), (2, .long _), (4, .long _)] [] _ _ _ _
    refine pm_e_sim pm_a50_17 rfl ?_
    refine pm_e_top (y := 0) (by decide +kernel) ?_
    show pm_E _ _ _ 18 [(0, .long _), (2, .long _), (4, .long _)] [.int 0] _ _ _ _
    refine pm_e_ret pm_a50_18 rfl rfl rfl rfl rfl rfl rfl rfl ?_
    show pm_E _ _ _ 13 [(0, .ref 18), (1, .int _)] [.int 0] _ _ _ _
    refine pm_e_ret pm_a61_13 rfl rfl rfl rfl rfl rfl rfl rfl ?_
    show pm_E _ _ _ 5 [(0, .ref 18), (1, .int _)] [.int 0] _ _ _ _
    refine pm_e_iff pm_a72_5 rfl (by decide +kernel) ?_
    show pm_E _ _ _ 8 [(0, .ref 18), (1, .int _)] [] _ _ _ _
    refine pm_e_sim pm_a72_8 rfl ?_
    refine pm_e_top (y := (-1)) (by decide +kernel) ?_
    show pm_E _ _ _ 9 [(0, .ref 18), (1, .int _)] [.int (-1)] _ _ _ _
    refine pm_e_ret pm_a72_9 rfl rfl rfl rfl rfl rfl rfl rfl ?_
    show pm_E _ _ _ 603 [(3, .int 0), (2, .ref 18), (1, .ref 0), (0, .retAddr 0)] [.int (-1), .int (-1)] _ _ _ _
    refine pm_e_ict pm_a0_603 rfl (by decide +kernel) ?_
    show pm_E _ _ _ 779 [(3, .int 0), (2, .ref 18), (1, .ref 0), (0, .retAddr 0)] [] _ _ _ _
    refine pm_e_inc (y := 6) pm_a0_779 rfl (by decide +kernel) (by decide +kernel) rfl ?_
    show pm_E _ _ _ 782 [(3, .int 6), (2, .ref 18), (1, .ref 0), (0, .retAddr 0)] [] _ _ _ _
    refine pm_e_goto pm_a0_782 rfl ?_
    show pm_E _ _ _ 18 [(3, .int 6), (2, .ref 18), (1, .ref 0), (0, .retAddr 0)] [] _ _ _ _
    refine pm_e_sim pm_a0_18 rfl ?_
    show pm_E _ _ _ 19 [(3, .int 6), (2, .ref 18), (1, .ref 0), (0, .retAddr 0)] [.int 6] _ _ _ _
    refine pm_e_sim pm_a0_19 rfl ?_
    show pm_E _ _ _ 20 [(3, .int 6), (2, .ref 18), (1, .ref 0), (0, .retAddr 0)] [.retAddr 0, .int 6] _ _ _ _
    refine pm_e_rd pm_a0_20 rfl rfl rfl ?_
    dsimp only
    refine pm_e_top (y := 6) (by decide +kernel) ?_
    show pm_E _ _ _ 21 [(3, .int 6), (2, .ref 18), (1, .ref 0), (0, .retAddr 0)] [.int 6, .int 6] _ _ _ _
    refine pm_e_sim pm_a0_21 rfl ?_
    refine pm_e_top (y := 6) (by decide +kernel) ?_
    show pm_E _ _ _ 23 [(3, .int 6), (2, .ref 18), (1, .ref 0), (0, .retAddr 0)] [.int 6, .int 6, .int 6] _ _ _ _
    refine pm_e_sim pm_a0_23 rfl ?_
    refine pm_e_top (y := 0) (by decide +kernel) ?_
    show pm_E _ _ _ 24 [(3, .int 6), (2, .ref 18), (1, .ref 0), (0, .retAddr 0)] [.int 0, .int 6] _ _ _ _
    refine pm_e_ict pm_a0_24 rfl (by decide +kernel) ?_
    show pm_E _ _ _ 785 [(3, .int 6), (2, .ref 18), (1, .ref 0), (0, .retAddr 0)] [] _ _ _ _
    refine pm_e_sim pm_a0_785 rfl ?_
    refine pm_e_top (y := 1) (by decide +kernel) ?_
    show pm_E _ _ _ 786 [(3, .int 6), (2, .ref 18), (1, .ref 0), (0, .retAddr 0)] [.int 1] _ _ _ _
    refine pm_e_ret pm_a0_786 rfl rfl rfl rfl rfl rfl rfl rfl ?_
    exact hQ _ _ _ (by decide +kernel) (by decide +kernel)
  · refine pm_e_tsi (t := 585) pm_a0_33 rfl (by decide +kernel) ?_
    show pm_E _ _ _ 585 [(3, .int 0), (2, .ref 18), (1, .ref 0), (0, .retAddr 0)] [] _ _ _ _
    refine pm_e_sim pm_a0_585 rfl ?_
    show pm_E _ _ _ 586 [(3, .int 0), (2, .ref 18), (1, .ref 0), (0, .retAddr 0)] [.ref 0] _ _ _ _
    refine pm_e_sim pm_a0_586 rfl ?_
    show pm_E _ _ _ 587 [(3, .int 0), (2, .ref 18), (1, .ref 0), (0, .retAddr 0)] [.retAddr 0, .ref 0] _ _ _ _
    refine pm_e_sim pm_a0_587 rfl ?_
    show pm_E _ _ _ 588 [(3, .int 0), (2, .ref 18), (1, .ref 0), (0, .retAddr 0)] [.int 0, .retAddr 0, .ref 0] _ _ _ _
    refine pm_e_sim pm_a0_588 rfl ?_
    refine pm_e_top (y := 1) (by decide +kernel) ?_
    show pm_E _ _ _ 589 [(3, .int 0), (2, .ref 18), (1, .ref 0), (0, .retAddr 0)] [.int 1, .int 0, .retAddr 0, .ref 0] _ _ _ _
    refine pm_e_sim pm_a0_589 rfl ?_
    refine pm_e_top (y := 1) (by decide +kernel) ?_
    show pm_E _ _ _ 590 [(3, .int 0), (2, .ref 18), (1, .ref 0), (0, .retAddr 0)] [.int 1, .retAddr 0, .ref 0] _ _ _ _
    refine pm_e_sld (j := 1) pm_a0_590 (by decide +kernel) ?_
    show pm_E _ _ _ 591 [(3, .int 0), (2, .ref 18), (1, .ref 0), (0, .retAddr 0)] [.int _, .ref 0] _ _ _ _
    refine pm_e_call (T2 := pm_mm37) pm_a0_591 rfl rfl rfl rfl rfl rfl rfl rfl rfl ?_
    show pm_E _ _ _ 0 [(0, .ref 0), (1, .int _)] [] _ _ _ _
    refine pm_e_sim pm_a37_0 rfl ?_
    show pm_E _ _ _ 1 [(0, .ref 0), (1, .int _)] [.ref 0] _ _ _ _
    refine pm_e_sim pm_a37_1 rfl ?_
    show pm_E _ _ _ 2 [(0, .ref 0), (1, .int _)] [.int _, .ref 0] _ _ _ _
    refine pm_e_call (T2 := pm_mm26) pm_a37_2 rfl rfl rfl rfl rfl rfl rfl rfl rfl ?_
    show pm_E _ _ _ 0 [(0, .ref 0), (1, .int _)] [] _ _ _ _
    refine pm_e_sim pm_a26_0 rfl ?_
    show pm_E _ _ _ 1 [(0, .ref 0), (1, .int _)] [.int _] _ _ _ _
    refine pm_e_iff pm_a26_1 rfl (pm_z_lt_f 0 (by decide +kernel) (by omega)) ?_
    show pm_E _ _ _ 4 [(0, .ref 0), (1, .int _)] [] _ _ _ _
    refine pm_e_sim pm_a26_4 rfl ?_
    show pm_E _ _ _ 5 [(0, .ref 0), (1, .int _)] [.int _] _ _ _ _
    refine pm_e_sim pm_a26_5 rfl ?_
    show pm_E _ _ _ 6 [(0, .ref 0), (1, .int _)] [.ref 0, .int _] _ _ _ _
    refine pm_e_rd pm_a26_6 rfl rfl rfl ?_
    show pm_E _ _ _ 9 [(0, .ref 0), (1, .int _)] [.int 0, .int _] _ _ _ _
    refine pm_e_ict pm_a26_9 rfl (pm_z_ge_t 0 (by decide +kernel) (by omega)) ?_
    show pm_E _ _ _ 30 [(0, .ref 0), (1, .int _)] [] _ _ _ _
    refine pm_e_sim pm_a26_30 rfl ?_
    show pm_E _ _ _ 31 [(0, .ref 0), (1, .int _)] [.null] _ _ _ _
    refine pm_e_ret pm_a26_31 rfl rfl rfl rfl rfl rfl rfl rfl ?_
    show pm_E _ _ _ 5 [(0, .ref 0), (1, .int _)] [.null] _ _ _ _
    refine pm_e_sim pm_a37_5 rfl ?_
    show pm_E _ _ _ 6 [(2, .null), (0, .ref 0), (1, .int _)] [] _ _ _ _
    refine pm_e_sim pm_a37_6 rfl ?_
    show pm_E _ _ _ 7 [(2, .null), (0, .ref 0), (1, .int _)] [.null] _ _ _ _
    refine pm_e_jmp (pc2 := 10) pm_a37_7 rfl rfl ?_
    show pm_E _ _ _ 10 [(2, .null), (0, .ref 0), (1, .int _)] [] _ _ _ _
    refine pm_e_sim pm_a37_10 rfl ?_
    refine pm_e_top (y := (-1)) (by decide +kernel) ?_
    show pm_E _ _ _ 11 [(2, .null), (0, .ref 0), (1, .int _)] [.int (-1)] _ _ _ _
    refine pm_e_ret pm_a37_11 rfl rfl rfl rfl rfl rfl rfl rfl ?_
    show pm_E _ _ _ 594 [(3, .int 0), (2, .ref 18), (1, .ref 0), (0, .retAddr 0)] [.int (-1)] _ _ _ _
    refine pm_e_sim pm_a0_594 rfl ?_
    show pm_E _ _ _ 595 [(3, .int 0), (2, .ref 18), (1, .ref 0), (0, .retAddr 0)] [.ref 18, .int (-1)] _ _ _ _
    refine pm_e_sim pm_a0_595 rfl ?_
    show pm_E _ _ _ 596 [(3, .int 0), (2, .ref 18), (1, .ref 0), (0, .retAddr 0)] [.retAddr 0, .ref 18, .int (-1)] _ _ _ _
    refine pm_e_sim pm_a0_596 rfl ?_
    show pm_E _ _ _ 597 [(3, .int 0), (2, .ref 18), (1, .ref 0), (0, .retAddr 0)] [.int 0, .retAddr 0, .ref 18, .int (-1)] _ _ _ _
    refine pm_e_sim pm_a0_597 rfl ?_
    refine pm_e_top (y := 1) (by decide +kernel) ?_
    show pm_E _ _ _ 598 [(3, .int 0), (2, .ref 18), (1, .ref 0), (0, .retAddr 0)] [.int 1, .int 0, .retAddr 0, .ref 18, .int (-1)] _ _ _ _
    refine pm_e_sim pm_a0_598 rfl ?_
    refine pm_e_top (y := 1) (by decide +kernel) ?_
    show pm_E _ _ _ 599 [(3, .int 0), (2, .ref 18), (1, .ref 0), (0, .retAddr 0)] [.int 1, .retAddr 0, .ref 18, .int (-1)] _ _ _ _
    refine pm_e_sld (j := 1) pm_a0_599 (by decide +kernel) ?_
    show pm_E _ _ _ 600 [(3, .int 0), (2, .ref 18), (1, .ref 0), (0, .retAddr 0)] [.int _, .ref 18, .int (-1)] _ _ _ _
    refine pm_e_call (T2 := pm_mm72) pm_a0_600 rfl rfl rfl rfl rfl rfl rfl rfl rfl ?_
    show pm_E _ _ _ 0 [(0, .ref 18), (1, .int _)] [] _ _ _ _
    refine pm_e_sim pm_a72_0 rfl ?_
    show pm_E _ _ _ 1 [(0, .ref 18), (1, .int _)] [.ref 18] _ _ _ _
    refine pm_e_sim pm_a72_1 rfl ?_
    show pm_E _ _ _ 2 [(0, .ref 18), (1, .int _)] [.int _, .ref 18] _ _ _ _
    refine pm_e_call (T2 := pm_mm61) pm_a72_2 rfl rfl rfl rfl rfl rfl rfl rfl rfl ?_
    show pm_E _ _ _ 0 [(0, .ref 18), (1, .int _)] [] _ _ _ _
    refine pm_e_sim pm_a61_0 rfl ?_
    show pm_E _ _ _ 1 [(0, .ref 18), (1, .int _)] [.int _] _ _ _ _
    refine pm_e_sim pm_a61_1 rfl ?_
    show pm_E _ _ _ 2 [(0, .ref 18), (1, .int _)] [.long _] _ _ _ _
    refine pm_e_sim pm_a61_2 rfl ?_
    show pm_E _ _ _ 3 [(0, .ref 18), (1, .int _)] [.long _, .long _] _ _ _ _
    refine pm_e_sim pm_a61_3 rfl ?_
    show pm_E _ _ _ 4 [(0, .ref 18), (1, .int _)] [.ref 18, .long _, .long _] _ _ _ _
    refine pm_e_rd pm_a61_4 rfl rfl rfl ?_
    show pm_E _ _ _ 7 [(0, .ref 18), (1, .int _)] [.int 0, .long _, .long _] _ _ _ _
    refine pm_e_sim pm_a61_7 rfl ?_
    refine pm_e_top (y := 1) (by decide +kernel) ?_
    show pm_E _ _ _ 8 [(0, .ref 18), (1, .int _)] [.int 1, .int 0, .long _, .long _] _ _ _ _
    refine pm_e_sim pm_a61_8 rfl ?_
    refine pm_e_top (y := (-1)) (by decide +kernel) ?_
    show pm_E _ _ _ 9 [(0, .ref 18), (1, .int _)] [.int (-1), .long _, .long _] _ _ _ _
    refine pm_e_sim pm_a61_9 rfl ?_
    show pm_E _ _ _ 10 [(0, .ref 18), (1, .int _)] [.long _, .long _, .long _] _ _ _ _
    refine pm_e_call (T2 := pm_mm50) pm_a61_10 rfl rfl rfl rfl rfl rfl rfl rfl rfl ?_
    show pm_E _ _ _ 0 [(0, .long _), (2, .long _), (4, .long _)] [] _ _ _ _
    refine pm_e_sim pm_a50_0 rfl ?_
    show pm_E _ _ _ 1 [(0, .long _), (2, .long _), (4, .long _)] [.long _] _ _ _ _
    refine pm_e_sim pm_a50_1 rfl ?_
    show pm_E _ _ _ 2 [(0, .long _), (2, .long _), (4, .long _)] [.long _, .long _] _ _ _ _
    refine pm_e_sim pm_a50_2 rfl ?_
    show pm_E _ _ _ 3 [(0, .long _), (2, .long _), (4, .long _)] [.int _] _ _ _ _
    refine pm_e_iff pm_a50_3 rfl (pm_zl_gt 0 (by decide +kernel) (by omega) (by decide +kernel)) ?_
    show pm_E _ _ _ 6 [(0, .long _), (2, .long _), (4, .long _)] [] _ _ _ _
    refine pm_e_sim pm_a50_6 rfl ?_
    show pm_E _ _ _ 7 [(0, .long _), (2, .long _), (4, .long _)] [.long _] _ _ _ _
    refine pm_e_sim pm_a50_7 rfl ?_
    show pm_E _ _ _ 9 [(0, .long _), (2, .long _), (4, .long _)] [.long _, .long _] _ _ _ _
    refine pm_e_sim pm_a50_9 rfl ?_
    show pm_E _ _ _ 10 [(0, .long _), (2, .long _), (4, .long _)] [.int _] _ _ _ _
    refine pm_e_ift pm_a50_10 rfl (pm_zl_gt (-1) (by decide +kernel) (by omega) (by decide +kernel)) ?_
    show pm_E _ _ _ 17 [(0, .long _), (2, .long _), (4, .long _)] [] _ _ _ _
    refine pm_e_sim pm_a50_17 rfl ?_
    refine pm_e_top (y := 0) (by decide +kernel) ?_
    show pm_E _ _ _ 18 [(0, .long _), (2, .long _), (4, .long _)] [.int 0] _ _ _ _
    refine pm_e_ret pm_a50_18 rfl rfl rfl rfl rfl rfl rfl rfl ?_
    show pm_E _ _ _ 13 [(0, .ref 18), (1, .int _)] [.int 0] _ _ _ _
    refine pm_e_ret pm_a61_13 rfl rfl rfl rfl rfl rfl rfl rfl ?_
    show pm_E _ _ _ 5 [(0, .ref 18), (1, .int _)] [.int 0] _ _ _ _
    refine pm_e_iff pm_a72_5 rfl (by decide +kernel) ?_
    show pm_E _ _ _ 8 [(0, .ref 18), (1, .int _)] [] _ _ _ _
    refine pm_e_sim pm_a72_8 rfl ?_
    refine pm_e_top (y := (-1)) (by decide +kernel) ?_
    show pm_E _ _ _ 9 [(0, .ref 18), (1, .int _)] [.int (-1)] _ _ _ _
    refine pm_e_ret pm_a72_9 rfl rfl rfl rfl rfl rfl rfl rfl ?_
    show pm_E _ _ _ 603 [(3, .int 0), (2, .ref 18), (1, .ref 0), (0, .retAddr 0)] [.int (-1), .int (-1)] _ _ _ _
    refine pm_e_ict pm_a0_603 rfl (by decide +kernel) ?_
    show pm_E _ _ _ 779 [(3, .int 0), (2, .ref 18), (1, .ref 0), (0, .retAddr 0)] [] _ _ _ _
    refine pm_e_inc (y := 6) pm_a0_779 rfl (by decide +kernel) (by decide +kernel) rfl ?_
    show pm_E _ _ _ 782 [(3, .int 6), (2, .ref 18), (1, .ref 0), (0, .retAddr 0)] [] _ _ _ _
    refine pm_e_goto pm_a0_782 rfl ?_
    show pm_E _ _ _ 18 [(3, .int 6), (2, .ref 18), (1, .ref 0), (0, .retAddr 0)] [] _ _ _ _
    refine pm_e_sim pm_a0_18 rfl ?_
    show pm_E _ _ _ 19 [(3, .int 6), (2, .ref 18), (1, .ref 0), (0, .retAddr 0)] [.int 6] _ _ _ _
    refine pm_e_sim pm_a0_19 rfl ?_
    show pm_E _ _ _ 20 [(3, .int 6), (2, .ref 18), (1, .ref 0), (0, .retAddr 0)] [.retAddr 0, .int 6] _ _ _ _
    refine pm_e_rd pm_a0_20 rfl rfl rfl ?_
    dsimp only
    refine pm_e_top (y := 6) (by decide +kernel) ?_
    show pm_E _ _ _ 21 [(3, .int 6), (2, .ref 18), (1, .ref 0), (0, .retAddr 0)] [.int 6, .int 6] _ _ _ _
    refine pm_e_sim pm_a0_21 rfl ?_
    refine pm_e_top (y := 6) (by decide +kernel) ?_
    show pm_E _ _ _ 23 [(3, .int 6), (2, .ref 18), (1, .ref 0), (0, .retAddr 0)] [.int 6, .int 6, .int 6] _ _ _ _
    refine pm_e_sim pm_a0_23 rfl ?_
    refine pm_e_top (y := 0) (by decide +kernel) ?_
    show pm_E _ _ _ 24 [(3, .int 6), (2, .ref 18), (1, .ref 0), (0, .retAddr 0)] [.int 0, .int 6] _ _ _ _
    refine pm_e_ict pm_a0_24 rfl (by decide +kernel) ?_
    show pm_E _ _ _ 785 [(3, .int 6), (2, .ref 18), (1, .ref 0), (0, .retAddr 0)] [] _ _ _ _
    refine pm_e_sim pm_a0_785 rfl ?_
    refine pm_e_top (y := 1) (by decide +kernel) ?_
    show pm_E _ _ _ 786 [(3, .int 6), (2, .ref 18), (1, .ref 0), (0, .retAddr 0)] [.int 1] _ _ _ _
    refine pm_e_ret pm_a0_786 rfl rfl rfl rfl rfl rfl rfl rfl ?_
    exact hQ _ _ _ (by decide +kernel) (by decide +kernel)
