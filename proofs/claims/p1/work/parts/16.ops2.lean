/-! one call on a fresh object -/
set_option maxHeartbeats 40000000 in
set_option maxRecDepth 200000 in
theorem pm_op16 (xs : Nat → Int32) {Q : Option Value → List va_E → Nat → Nat → Prop} (hQ : ∀ ph c n, c ≤ 600000 → n ≤ 7302250 → Q (some (.int 1)) ph c n) : pm_E (some (6, xs)) 11 pm_mm0 33 pm_L0 [.int (nI 16)] pm_H0 50 194358 Q := by
  refine pm_e_top (y := 16) (by decide +kernel) ?_
  rcases (show (xs 1).toInt < 0 ∨ (xs 1).toInt = 0 ∨ 0 < (xs 1).toInt by omega) with h1 | h1 | h1
  · refine pm_e_tsi (t := 608) pm_a0_33 rfl (by decide +kernel) ?_
    show pm_E _ _ _ 608 [(3, .int 0), (2, .ref 18), (1, .ref 0), (0, .retAddr 0)] [] _ _ _ _
    refine pm_e_sim pm_a0_608 rfl ?_
    show pm_E _ _ _ 609 [(3, .int 0), (2, .ref 18), (1, .ref 0), (0, .retAddr 0)] [.ref 0] _ _ _ _
    refine pm_e_sim pm_a0_609 rfl ?_
    show pm_E _ _ _ 610 [(3, .int 0), (2, .ref 18), (1, .ref 0), (0, .retAddr 0)] [.retAddr 0, .ref 0] _ _ _ _
    refine pm_e_sim pm_a0_610 rfl ?_
    show pm_E _ _ _ 611 [(3, .int 0), (2, .ref 18), (1, .ref 0), (0, .retAddr 0)] [.int 0, .retAddr 0, .ref 0] _ _ _ _
    refine pm_e_sim pm_a0_611 rfl ?_
    refine pm_e_top (y := 1) (by decide +kernel) ?_
    show pm_E _ _ _ 612 [(3, .int 0), (2, .ref 18), (1, .ref 0), (0, .retAddr 0)] [.int 1, .int 0, .retAddr 0, .ref 0] _ _ _ _
    refine pm_e_sim pm_a0_612 rfl ?_
    refine pm_e_top (y := 1) (by decide +kernel) ?_
    show pm_E _ _ _ 613 [(3, .int 0), (2, .ref 18), (1, .ref 0), (0, .retAddr 0)] [.int 1, .retAddr 0, .ref 0] _ _ _ _
    refine pm_e_sld (j := 1) pm_a0_613 (by decide +kernel) ?_
    show pm_E _ _ _ 614 [(3, .int 0), (2, .ref 18), (1, .ref 0), (0, .retAddr 0)] [.int _, .ref 0] _ _ _ _
    refine pm_e_call (T2 := pm_mm38) pm_a0_614 rfl rfl rfl rfl rfl rfl rfl rfl rfl ?_
    show pm_E _ _ _ 0 [(0, .ref 0), (1, .int _)] [] _ _ _ _
    refine pm_e_sim pm_a38_0 rfl ?_
    show pm_E _ _ _ 1 [(0, .ref 0), (1, .int _)] [.ref 0] _ _ _ _
    refine pm_e_sim pm_a38_1 rfl ?_
    show pm_E _ _ _ 2 [(0, .ref 0), (1, .int _)] [.int _, .ref 0] _ _ _ _
    refine pm_e_call (T2 := pm_mm26) pm_a38_2 rfl rfl rfl rfl rfl rfl rfl rfl rfl ?_
    show pm_E _ _ _ 0 [(0, .ref 0), (1, .int _)] [] _ _ _ _
    refine pm_e_sim pm_a26_0 rfl ?_
    show pm_E _ _ _ 1 [(0, .ref 0), (1, .int _)] [.int _] _ _ _ _
    refine pm_e_ift pm_a26_1 rfl (pm_z_lt_t 0 (by decide +kernel) (by omega)) ?_
    show pm_E _ _ _ 30 [(0, .ref 0), (1, .int _)] [] _ _ _ _
    refine pm_e_sim pm_a26_30 rfl ?_
    show pm_E _ _ _ 31 [(0, .ref 0), (1, .int _)] [.null] _ _ _ _
    refine pm_e_ret pm_a26_31 rfl rfl rfl rfl rfl rfl rfl rfl ?_
    show pm_E _ _ _ 5 [(0, .ref 0), (1, .int _)] [.null] _ _ _ _
    refine pm_e_sim pm_a38_5 rfl ?_
    show pm_E _ _ _ 6 [(2, .null), (0, .ref 0), (1, .int _)] [] _ _ _ _
    refine pm_e_sim pm_a38_6 rfl ?_
    show pm_E _ _ _ 7 [(2, .null), (0, .ref 0), (1, .int _)] [.null] _ _ _ _
    refine pm_e_jmp (pc2 := 10) pm_a38_7 rfl rfl ?_
    show pm_E _ _ _ 10 [(2, .null), (0, .ref 0), (1, .int _)] [] _ _ _ _
    refine pm_e_sim pm_a38_10 rfl ?_
    refine pm_e_top (y := (-1)) (by decide +kernel) ?_
    show pm_E _ _ _ 11 [(2, .null), (0, .ref 0), (1, .int _)] [.int (-1)] _ _ _ _
    refine pm_e_goto pm_a38_11 rfl ?_
    show pm_E _ _ _ 18 [(2, .null), (0, .ref 0), (1, .int _)] [.int (-1)] _ _ _ _
    refine pm_e_ret pm_a38_18 rfl rfl rfl rfl rfl rfl rfl rfl ?_
    show pm_E _ _ _ 617 [(3, .int 0), (2, .ref 18), (1, .ref 0), (0, .retAddr 0)] [.int (-1)] _ _ _ _
    refine pm_e_sim pm_a0_617 rfl ?_
    show pm_E _ _ _ 618 [(3, .int 0), (2, .ref 18), (1, .ref 0), (0, .retAddr 0)] [.ref 18, .int (-1)] _ _ _ _
    refine pm_e_sim pm_a0_618 rfl ?_
    show pm_E _ _ _ 619 [(3, .int 0), (2, .ref 18), (1, .ref 0), (0, .retAddr 0)] [.retAddr 0, .ref 18, .int (-1)] _ _ _ _
    refine pm_e_sim pm_a0_619 rfl ?_
    show pm_E _ _ _ 620 [(3, .int 0), (2, .ref 18), (1, .ref 0), (0, .retAddr 0)] [.int 0, .retAddr 0, .ref 18, .int (-1)] _ _ _ _
    refine pm_e_sim pm_a0_620 rfl ?_
    refine pm_e_top (y := 1) (by decide +kernel) ?_
    show pm_E _ _ _ 621 [(3, .int 0), (2, .ref 18), (1, .ref 0), (0, .retAddr 0)] [.int 1, .int 0, .retAddr 0, .ref 18, .int (-1)] _ _ _ _
    refine pm_e_sim pm_a0_621 rfl ?_
    refine pm_e_top (y := 1) (by decide +kernel) ?_
    show pm_E _ _ _ 622 [(3, .int 0), (2, .ref 18), (1, .ref 0), (0, .retAddr 0)] [.int 1, .retAddr 0, .ref 18, .int (-1)] _ _ _ _
    refine pm_e_sld (j := 1) pm_a0_622 (by decide +kernel) ?_
    show pm_E _ _ _ 623 [(3, .int 0), (2, .ref 18), (1, .ref 0), (0, .retAddr 0)] [.int _, .ref 18, .int (-1)] _ _ _ _
    refine pm_e_call (T2 := pm_mm73) pm_a0_623 rfl rfl rfl rfl rfl rfl rfl rfl rfl ?_
    show pm_E _ _ _ 0 [(0, .ref 18), (1, .int _)] [] _ _ _ _
    refine pm_e_sim pm_a73_0 rfl ?_
    show pm_E _ _ _ 1 [(0, .ref 18), (1, .int _)] [.ref 18] _ _ _ _
    refine pm_e_sim pm_a73_1 rfl ?_
    show pm_E _ _ _ 2 [(0, .ref 18), (1, .int _)] [.int _, .ref 18] _ _ _ _
    refine pm_e_call (T2 := pm_mm61) pm_a73_2 rfl rfl rfl rfl rfl rfl rfl rfl rfl ?_
    show pm_E _ _ _ 0 [(0, .ref 18), (1, .int _)] [] _ _ _ _
    refine pm_e_sim pm_a61_0 rfl ?_
    show pm_E _ _ _ 1 [(0, .ref 18), (1, .int _)] [.int _] _ _ _ _
    refine pm_e_sim pm_a61_1 rfl ?_
    show pm_E _ _ _ 2 [(0, .ref 18), (1, .int _)] [.long _] _ _ _ _
    refine pm_e_sim pm_a61_2 rfl ?_
    show pm_E _ _ _ 3 [(0, .ref 18), (1, .int _)] [.long _, .long _] _ _ _ _
    refine pm_e_sim pm_a61_3 rfl ?_
    show pm_E _ _ _ 4 [(0, .ref 18), (1, .int _)] [.ref 18, .long _, .long _] _ _ _ _
    refine pm_e_rd pm_a61_4 rfl rfl rfl ?_
    show pm_E _ _ _ 7 [(0, .ref 18), (1, .int _)] [.int 0, .long _, .long _] _ _ _ _
    refine pm_e_sim pm_a61_7 rfl ?_
    refine pm_e_top (y := 1) (by decide +kernel) ?_
    show pm_E _ _ _ 8 [(0, .ref 18), (1, .int _)] [.int 1, .int 0, .long _, .long _] _ _ _ _
    refine pm_e_sim pm_a61_8 rfl ?_
    refine pm_e_top (y := (-1)) (by decide +kernel) ?_
    show pm_E _ _ _ 9 [(0, .ref 18), (1, .int _)] [.int (-1), .long _, .long _] _ _ _ _
    refine pm_e_sim pm_a61_9 rfl ?_
    show pm_E _ _ _ 10 [(0, .ref 18), (1, .int _)] [.long _, .long _, .long _] _ _ _ _
    refine pm_e_call (T2 := pm_mm50) pm_a61_10 rfl rfl rfl rfl rfl rfl rfl rfl rfl ?_
    show pm_E _ _ _ 0 [(0, .long _), (2, .long _), (4, .long _)] [] _ _ _ _
    refine pm_e_sim pm_a50_0 rfl ?_
    show pm_E _ _ _ 1 [(0, .long _), (2, .long _), (4, .long _)] [.long _] _ _ _ _
    refine pm_e_sim pm_a50_1 rfl ?_
    show pm_E _ _ _ 2 [(0, .long _), (2, .long _), (4, .long _)] [.long _, .long _] _ _ _ _
    refine pm_e_sim pm_a50_2 rfl ?_
    show pm_E _ _ _ 3 [(0, .long _), (2, .long _), (4, .long _)] [.int _] _ _ _ _
    refine pm_e_ift pm_a50_3 rfl (pm_zl_lt 0 (by decide +kernel) (by omega) (by decide +kernel)) ?_
    show pm_E _ _ _ 17 [(0, .long _), (2, .long _), (4, .long _)] [] _ _ _ _
    refine pm_e_sim pm_a50_17 rfl ?_
    refine pm_e_top (y := 0) (by decide +kernel) ?_
    show pm_E _ _ _ 18 [(0, .long _), (2, .long _), (4, .long _)] [.int 0] _ _ _ _
    refine pm_e_ret pm_a50_18 rfl rfl rfl rfl rfl rfl rfl rfl ?_
    show pm_E _ _ _ 13 [(0, .ref 18), (1, .int _)] [.int 0] _ _ _ _
    refine pm_e_ret pm_a61_13 rfl rfl rfl rfl rfl rfl rfl rfl ?_
    show pm_E _ _ _ 5 [(0, .ref 18), (1, .int _)] [.int 0] _ _ _ _
    refine pm_e_iff pm_a73_5 rfl (by decide +kernel) ?_
    show pm_E _ _ _ 8 [(0, .ref 18), (1, .int _)] [] _ _ _ _
    refine pm_e_sim pm_a73_8 rfl ?_
    refine pm_e_top (y := (-1)) (by decide +kernel) ?_
    show pm_E _ _ _ 9 [(0, .ref 18), (1, .int _)] [.int (-1)] _ _ _ _
    refine pm_e_ret pm_a73_9 rfl rfl rfl rfl rfl rfl rfl rfl ?_
    show pm_E _ _ _ 626 [(3, .int 0), (2, .ref 18), (1, .ref 0), (0, .retAddr 0)] [.int (-1), .int (-1)] _ _ _ _
    refine pm_e_ict pm_a0_626 rfl (by decide +kernel) ?_
    show pm_E _ _ _ 779 [(3, .int 0), (2, .ref 18), (1, .ref 0), (0, .retAddr 0)] [] _ _ _ _
    refine pm_e_inc (y := 6) pm_a0_779 rfl (by decide +kernel) (by decide +kernel) rfl ?_
    show pm_E _ _ _ 782 [(3, .int 6), (2, .ref 18), (1, .ref 0), (0, .retAddr 0)] [] _ _ _ _
    refine pm_e_goto pm_a0_782 rfl ?_
    show pm_E _ _ _ 18 [(3, .int 6), (2, .ref 18), (1, .ref 0), (0, .retAddr 0)] [] _ _ _ _
    refine pm_e_sim pm_a0_18 rfl ?_
    show pm_E _ _ _ 19 [(3, .int 6), (2, .ref 18), (1, .ref 0), (0, .retAddr 0)] [.int 6] _ _ _ _
    refine pm_e_sim pm_a0_19 rfl ?_
    show pm_E _ _ _ 20 [(3, .int 6), (2, .ref 18), (1, .ref 0), (0, .retAddr 0)] [.retAddr 0, .int 6] _ _ _ _
    refine pm_e_rd pm_a0_20 rfl rfl rfl ?_
    dsimp only
    refine pm_e_top (y := 6) (by decide +kernel) ?_
    show pm_E _ _ _ 21 [(3, .int 6), (2, .ref 18), (1, .ref 0), (0, .retAddr 0)] [.int 6, .int 6] _ _ _ _
    refine pm_e_sim pm_a0_21 rfl ?_
    refine pm_e_top (y := 6) (by decide +kernel) ?_
    show pm_E _ _ _ 23 [(3, .int 6), (2, .ref 18), (1, .ref 0), (0, .retAddr 0)] [.int 6, .int 6, .int 6] _ _ _ _
    refine pm_e_sim pm_a0_23 rfl ?_
    refine pm_e_top (y := 0) (by decide +kernel) ?_
    show pm_E _ _ _ 24 [(3, .int 6), (2, .ref 18), (1, .ref 0), (0, .retAddr 0)] [.int 0, .int 6] _ _ _ _
    refine pm_e_ict pm_a0_24 rfl (by decide +kernel) ?_
    show pm_E _ _ _ 785 [(3, .int 6), (2, .ref 18), (1, .ref 0), (0, .retAddr 0)] [] _ _ _ _
    refine pm_e_sim pm_a0_785 rfl ?_
    refine pm_e_top (y := 1) (by decide +kernel) ?_
    show pm_E _ _ _ 786 [(3, .int 6), (2, .ref 18), (1, .ref 0), (0, .retAddr 0)] [.int 1] _ _ _ _
    refine pm_e_ret pm_a0_786 rfl rfl rfl rfl rfl rfl rfl rfl ?_
    exact hQ _ _ _ (by decide +kernel) (by decide +kernel)
  · refine pm_e_tsi (t := 608) pm_a0_33 rfl (by decide +kernel) ?_
    show pm_E _ _ _ 608 [(3, .int 0), (2, .ref 18), (1, .ref 0), (0, .retAddr 0)] [] _ _ _ _
    refine pm_e_sim pm_a0_608 rfl ?_
    show pm_E _ _ _ 609 [(3, .int 0), (2, .ref 18), (1, .ref 0), (0, .retAddr 0)] [.ref 0] _ _ _ _
    refine pm_e_sim pm_a0_609 rfl ?_
    show pm_E _ _ _ 610 [(3, .int 0), (2, .ref 18), (1, .ref 0), (0, .retAddr 0)] [.retAddr 0, .ref 0] _ _ _ _
    refine pm_e_sim pm_a0_610 rfl ?_
    show pm_E _ _ _ 611 [(3, .int 0), (2, .ref 18), (1, .ref 0), (0, .retAddr 0)] [.int 0, .retAddr 0, .ref 0] _ _ _ _
    refine pm_e_sim pm_a0_611 rfl ?_
    refine pm_e_top (y := 1) (by decide +kernel) ?_
    show pm_E _ _ _ 612 [(3, .int 0), (2, .ref 18), (1, .ref 0), (0, .retAddr 0)] [.int 1, .int 0, .retAddr 0, .ref 0] _ _ _ _
    refine pm_e_sim pm_a0_612 rfl ?_
    refine pm_e_top (y := 1) (by decide +kernel) ?_
    show pm_E _ _ _ 613 [(3, .int 0), (2, .ref 18), (1, .ref 0), (0, .retAddr 0)] [.int 1, .retAddr 0, .ref 0] _ _ _ _
    refine pm_e_sld (j := 1) pm_a0_613 (by decide +kernel) ?_
    show pm_E _ _ _ 614 [(3, .int 0), (2, .ref 18), (1, .ref 0), (0, .retAddr 0)] [.int _, .ref 0] _ _ _ _
    refine pm_e_call (T2 := pm_mm38) pm_a0_614 rfl rfl rfl rfl rfl rfl rfl rfl rfl ?_
    show pm_E _ _ _ 0 [(0, .ref 0), (1, .int _)] [] _ _ _ _
    refine pm_e_sim pm_a38_0 rfl ?_
    show pm_E _ _ _ 1 [(0, .ref 0), (1, .int _)] [.ref 0] _ _ _ _
    refine pm_e_sim pm_a38_1 rfl ?_
    show pm_E _ _ _ 2 [(0, .ref 0), (1, .int _)] [.int _, .ref 0] _ _ _ _
    refine pm_e_call (T2 := pm_mm26) pm_a38_2 rfl rfl rfl rfl rfl rfl rfl rfl rfl ?_
    show pm_E _ _ _ 0 [(0, .ref 0), (1, .int _)] [] _ _ _ _
    refine pm_e_sim pm_a26_0 rfl ?_
    show pm_E _ _ _ 1 [(0, .ref 0), (1, .int _)] [.int _] _ _ _ _
    refine pm_e_iff pm_a26_1 rfl (pm_z_lt_f 0 (by decide +kernel) (by omega)) ?_
    show pm_E _ _ _ 4 [(0, .ref 0), (1, .int _)] [] _ _ _ _
    refine pm_e_sim pm_a26_4 rfl ?_
    show pm_E _ _ _ 5 [(0, .ref 0), (1, .int _)] [.int _] _ _ _ _
    refine pm_e_sim pm_a26_5 rfl ?_
    show pm_E _ _ _ 6 [(0, .ref 0), (1, .int _)] [.ref 0, .int _] _ _ _ _
    refine pm_e_rd pm_a26_6 rfl rfl rfl ?_
    show pm_E _ _ _ 9 [(0, .ref 0), (1, .int _)] [.int 0, .int _] _ _ _ _
    refine pm_e_ict pm_a26_9 rfl (pm_z_ge_t 0 (by decide +kernel) (by omega)) ?_
    show pm_E _ _ _ 30 [(0, .ref 0), (1, .int _)] [] _ _ _ _
    refine pm_e_sim pm_a26_30 rfl ?_
    show pm_E _ _ _ 31 [(0, .ref 0), (1, .int _)] [.null] _ _ _ _
    refine pm_e_ret pm_a26_31 rfl rfl rfl rfl rfl rfl rfl rfl ?_
    show pm_E _ _ _ 5 [(0, .ref 0), (1, .int _)] [.null] _ _ _ _
    refine pm_e_sim pm_a38_5 rfl ?_
    show pm_E _ _ _ 6 [(2, .null), (0, .ref 0), (1, .int _)] [] _ _ _ _
    refine pm_e_sim pm_a38_6 rfl ?_
    show pm_E _ _ _ 7 [(2, .null), (0, .ref 0), (1, .int _)] [.null] _ _ _ _
    refine pm_e_jmp (pc2 := 10) pm_a38_7 rfl rfl ?_
    show pm_E _ _ _ 10 [(2, .null), (0, .ref 0), (1, .int _)] [] _ _ _ _
    refine pm_e_sim pm_a38_10 rfl ?_
    refine pm_e_top (y := (-1)) (by decide +kernel) ?_
    show pm_E _ _ _ 11 [(2, .null), (0, .ref 0), (1, .int _)] [.int (-1)] _ _ _ _
    refine pm_e_goto pm_a38_11 rfl ?_
    show pm_E _ _ _ 18 [(2, .null), (0, .ref 0), (1, .int _)] [.int (-1)] _ _ _ _
    refine pm_e_ret pm_a38_18 rfl rfl rfl rfl rfl rfl rfl rfl ?_
    show pm_E _ _ _ 617 [(3, .int 0), (2, .ref 18), (1, .ref 0), (0, .retAddr 0)] [.int (-1)] _ _ _ _
    refine pm_e_sim pm_a0_617 rfl ?_
    show pm_E _ _ _ 618 [(3, .int 0), (2, .ref 18), (1, .ref 0), (0, .retAddr 0)] [.ref 18, .int (-1)] _ _ _ _
    refine pm_e_sim pm_a0_618 rfl ?_
    show pm_E _ _ _ 619 [(3, .int 0), (2, .ref 18), (1, .ref 0), (0, .retAddr 0)] [.retAddr 0, .ref 18, .int (-1)] _ _ _ _
    refine pm_e_sim pm_a0_619 rfl ?_
    show pm_E _ _ _ 620 [(3, .int 0), (2, .ref 18), (1, .ref 0), (0, .retAddr 0)] [.int 0, .retAddr 0, .ref 18, .int (-1)] _ _ _ _
    refine pm_e_sim pm_a0_620 rfl ?_
    refine pm_e_top (y := 1) (by decide +kernel) ?_
    show pm_E _ _ _ 621 [(3, .int 0), (2, .ref 18), (1, .ref 0), (0, .retAddr 0)] [.int 1, .int 0, .retAddr 0, .ref 18, .int (-1)] _ _ _ _
    refine pm_e_sim pm_a0_621 rfl ?_
    refine pm_e_top (y := 1) (by decide +kernel) ?_
    show pm_E _ _ _ 622 [(3, .int 0), (2, .ref 18), (1, .ref 0), (0, .retAddr 0)] [.int 1, .retAddr 0, .ref 18, .int (-1)] _ _ _ _
    refine pm_e_sld (j := 1) pm_a0_622 (by decide +kernel) ?_
    show pm_E _ _ _ 623 [(3, .int 0), (2, .ref 18), (1, .ref 0), (0, .retAddr 0)] [.int _, .ref 18, .int (-1)] _ _ _ _
    refine pm_e_call (T2 := pm_mm73) pm_a0_623 rfl rfl rfl rfl rfl rfl rfl rfl rfl ?_
    show pm_E _ _ _ 0 [(0, .ref 18), (1, .int _)] [] _ _ _ _
    refine pm_e_sim pm_a73_0 rfl ?_
    show pm_E _ _ _ 1 [(0, .ref 18), (1, .int _)] [.ref 18] _ _ _ _
    refine pm_e_sim pm_a73_1 rfl ?_
    show pm_E _ _ _ 2 [(0, .ref 18), (1, .int _)] [.int _, .ref 18] _ _ _ _
    refine pm_e_call (T2 := pm_mm61) pm_a73_2 rfl rfl rfl rfl rfl rfl rfl rfl rfl ?_
    show pm_E _ _ _ 0 [(0, .ref 18), (1, .int _)] [] _ _ _ _
    refine pm_e_sim pm_a61_0 rfl ?_
    show pm_E _ _ _ 1 [(0, .ref 18), (1, .int _)] [.int _] _ _ _ _
    refine pm_e_sim pm_a61_1 rfl ?_
    show pm_E _ _ _ 2 [(0, .ref 18), (1, .int _)] [.long _] _ _ _ _
    refine pm_e_sim pm_a61_2 rfl ?_
    show pm_E _ _ _ 3 [(0, .ref 18), (1, .int _)] [.long _, .long _] _ _ _ _
    refine pm_e_sim pm_a61_3 rfl ?_
    show pm_E _ _ _ 4 [(0, .ref 18), (1, .int _)] [.ref 18, .long _, .long _] _ _ _ _
    refine pm_e_rd pm_a61_4 rfl rfl rfl ?_
    show pm_E _ _ _ 7 [(0, .ref 18), (1, .int _)] [.int 0, .long _, .long _] _ _ _ _
    refine pm_e_sim pm_a61_7 rfl ?_
    refine pm_e_top (y := 1) (by decide +kernel) ?_
    show pm_E _ _ _ 8 [(0, .ref 18), (1, .int _)] [.int 1, .int 0, .long _, .long _] _ _ _ _
    refine pm_e_sim pm_a61_8 rfl ?_
    refine pm_e_top (y := (-1)) (by decide +kernel) ?_
    show pm_E _ _ _ 9 [(0, .ref 18), (1, .int _)] [.int (-1), .long _, .long _] _ _ _ _
    refine pm_e_sim pm_a61_9 rfl ?_
    show pm_E _ _ _ 10 [(0, .ref 18), (1, .int _)] [.long _, .long _, .long _] _ _ _ _
    refine pm_e_call (T2 := pm_mm50) pm_a61_10 rfl rfl rfl rfl rfl rfl rfl rfl rfl ?_
    show pm_E _ _ _ 0 [(0, .long _), (2, .long _), (4, .long _)] [] _ _ _ _
    refine pm_e_sim pm_a50_0 rfl ?_
    show pm_E _ _ _ 1 [(0, .long _), (2, .long _), (4, .long _)] [.long _] _ _ _ _
    refine pm_e_sim pm_a50_1 rfl ?_
    show pm_E _ _ _ 2 [(0, .long _), (2, .long _), (4, .long _)] [.long _, .long _] _ _ _ _
    refine pm_e_sim pm_a50_2 rfl ?_
    show pm_E _ _ _ 3 [(0, .long _), (2, .long _), (4, .long _)] [.int _] _ _ _ _
    refine pm_e_iff pm_a50_3 rfl (pm_zl_eq 0 (by decide +kernel) (by omega) (by decide +kernel)) ?_
    show pm_E _ _ _ 6 [(0, .long _), (2, .long _), (4, .long _)] [] _ _ _ _
    refine pm_e_sim pm_a50_6 rfl ?_
    show pm_E _ _ _ 7 [(0, .long _), (2, .long _), (4, .long _)] [.long _] _ _ _ _
    refine pm_e_sim pm_a50_7 rfl ?_
    show pm_E _ _ _ 9 [(0, .long _), (2, .long _), (4, .long _)] [.long _, .long _] _ _ _ _
    refine pm_e_sim pm_a50_9 rfl ?_
    show pm_E _ _ _ 10 [(0, .long _), (2, .long _), (4, .long _)] [.int _] _ _ _ _
    refine pm_e_ift pm_a50_10 rfl (pm_zl_gt (-1) (by decide +kernel) (by omega) (by decide +kernel)) ?_
    show pm_E _ _ _ 17 [(0, .long _), (2, .long _), (4, .long _)] [] _ _ _ _
    refine pm_e_sim pm_a50_17 rfl ?_
    refine pm_e_top (y := 0) (by decide +kernel) ?_
    show pm_E _ _ _ 18 [(0, .long _), (2, .long _), (4, .long _)] [.int 0] _ _ _ _
    refine pm_e_ret pm_a50_18 rfl rfl rfl rfl rfl rfl rfl rfl ?_
    show pm_E _ _ _ 13 [(0, .ref 18), (1, .int _)] [.int 0] _ _ _ _
    refine pm_e_ret pm_a61_13 rfl rfl rfl rfl rfl rfl rfl rfl ?_
    show pm_E _ _ _ 5 [(0, .ref 18), (1, .int _)] [.int 0] _ _ _ _
    refine pm_e_iff pm_a73_5 rfl (by decide +kernel) ?_
    show pm_E _ _ _ 8 [(0, .ref 18), (1, .int _)] [] _ _ _ _
    refine pm_e_sim pm_a73_8 rfl ?_
    refine pm_e_top (y := (-1)) (by decide +kernel) ?_
    show pm_E _ _ _ 9 [(0, .ref 18), (1, .int _)] [.int (-1)] _ _ _ _
    refine pm_e_ret pm_a73_9 rfl rfl rfl rfl rfl rfl rfl rfl ?_
    show pm_E _ _ _ 626 [(3, .int 0), (2, .ref 18), (1, .ref 0), (0, .retAddr 0)] [.int (-1), .int (-1)] _ _ _ _
    refine pm_e_ict pm_a0_626 rfl (by decide +kernel) ?_
    show pm_E _ _ _ 779 [(3, .int 0), (2, .ref 18), (1, .ref 0), (0, .retAddr 0)] [] _ _ _ _
    refine pm_e_inc (y := 6) pm_a0_779 rfl (by decide +kernel) (by decide +kernel) rfl ?_
    show pm_E _ _ _ 782 [(3, .int 6), (2, .ref 18), (1, .ref 0), (0, .retAddr 0)] [] _ _ _ _
    refine pm_e_goto pm_a0_782 rfl ?_
    show pm_E _ _ _ 18 [(3, .int 6), (2, .ref 18), (1, .ref 0), (0, .retAddr 0)] [] _ _ _ _
    refine pm_e_sim pm_a0_18 rfl ?_
    show pm_E _ _ _ 19 [(3, .int 6), (2, .ref 18), (1, .ref 0), (0, .retAddr 0)] [.int 6] _ _ _ _
    refine pm_e_sim pm_a0_19 rfl ?_
    show pm_E _ _ _ 20 [(3, .int 6), (2, .ref 18), (1, .ref 0), (0, .retAddr 0)] [.retAddr 0, .int 6] _ _ _ _
    refine pm_e_rd pm_a0_20 rfl rfl rfl ?_
    dsimp only
    refine pm_e_top (y := 6) (by decide +kernel) ?_
    show pm_E _ _ _ 21 [(3, .int 6), (2, .ref 18), (1, .ref 0), (0, .retAddr 0)] [.int 6, .int 6] _ _ _ _
    refine pm_e_sim pm_a0_21 rfl ?_
    refine pm_e_top (y := 6) (by decide +kernel) ?_
    show pm_E _ _ _ 23 [(3, .int 6), (2, .ref 18), (1, .ref 0), (0, .retAddr 0)] [.int 6, .int 6, .int 6] _ _ _ _
    refine pm_e_sim pm_a0_23 rfl ?_
    refine pm_e_top (y := 0) (by decide +kernel) ?_
    show pm_E _ _ _ 24 [(3, .int 6), (2, .ref 18), (1, .ref 0), (0, .retAddr 0)] [.int 0, .int 6] _ _ _ _
    refine pm_e_ict pm_a0_24 rfl (by decide +kernel) ?_
    show pm_E _ _ _ 785 [(3, .int 6), (2, .ref 18), (1, .ref 0), (0, .retAddr 0)] [] _ _ _ _
    refine pm_e_sim pm_a0_785 rfl ?_
    refine pm_e_top (y := 1) (by decide +kernel) ?_
    show pm_E _ _ _ 786 [(3, .int 6), (2, .ref 18), (1, .ref 0), (0, .retAddr 0)] [.int 1] _ _ _ _
    refine pm_e_ret pm_a0_786 rfl rfl rfl rfl rfl rfl rfl rfl ?_
    exact hQ _ _ _ (by decide +kernel) (by decide +kernel)
  · refine pm_e_tsi (t := 608) pm_a0_33 rfl (by decide +kernel) ?_
    show pm_E _ _ _ 608 [(3, .int 0), (2, .ref 18), (1, .ref 0), (0, .retAddr 0)] [] _ _ _ _
    refine pm_e_sim pm_a0_608 rfl ?_
    show pm_E _ _ _ 609 [(3, .int 0), (2, .ref 18), (1, .ref 0), (0, .retAddr 0)] [.ref 0] _ _ _ _
    refine pm_e_sim pm_a0_609 rfl ?_
    show pm_E _ _ _ 610 [(3, .int 0), (2, .ref 18), (1, .ref 0), (0, .retAddr 0)] [.retAddr 0, .ref 0] _ _ _ _
    refine pm_e_sim pm_a0_610 rfl ?_
    show pm_E _ _ _ 611 [(3, .int 0), (2, .ref 18), (1, .ref 0), (0, .retAddr 0)] [.int 0, .retAddr 0, .ref 0] _ _ _ _
    refine pm_e_sim pm_a0_611 rfl ?_
    refine pm_e_top (y := 1) (by decide +kernel) ?_
    show pm_E _ _ _ 612 [(3, .int 0), (2, .ref 18), (1, .ref 0), (0, .retAddr 0)] [.int 1, .int 0, .retAddr 0, .ref 0] _ _ _ _
    refine pm_e_sim pm_a0_612 rfl ?_
    refine pm_e_top (y := 1) (by decide +kernel) ?_
    show pm_E _ _ _ 613 [(3, .int 0), (2, .ref 18), (1, .ref 0), (0, .retAddr 0)] [.int 1, .retAddr 0, .ref 0] _ _ _ _
    refine pm_e_sld (j := 1) pm_a0_613 (by decide +kernel) ?_
    show pm_E _ _ _ 614 [(3, .int 0), (2, .ref 18), (1, .ref 0), (0, .retAddr 0)] [.int _, .ref 0] _ _ _ _
    refine pm_e_call (T2 := pm_mm38) pm_a0_614 rfl rfl rfl rfl rfl rfl rfl rfl rfl ?_
    show pm_E _ _ _ 0 [(0, .ref 0), (1, .int _)] [] _ _ _ _
    refine pm_e_sim pm_a38_0 rfl ?_
    show pm_E _ _ _ 1 [(0, .ref 0), (1, .int _)] [.ref 0] _ _ _ _
    refine pm_e_sim pm_a38_1 rfl ?_
    show pm_E _ _ _ 2 [(0, .ref 0), (1, .int _)] [.int _, .ref 0] _ _ _ _
    refine pm_e_call (T2 := pm_mm26) pm_a38_2 rfl rfl rfl rfl rfl rfl rfl rfl rfl ?_
    show pm_E _ _ _ 0 [(0, .ref 0), (1, .int _)] [] _ _ _ _
    refine pm_e_sim pm_a26_0 rfl ?_
    show pm_E _ _ _ 1 [(0, .ref 0), (1, .int _)] [.int _] _ _ _ _
    refine pm_e_iff pm_a26_1 rfl (pm_z_lt_f 0 (by decide +kernel) (by omega)) ?_
    show pm_E _ _ _ 4 [(0, .ref 0), (1, .int _)] [] _ _ _ _
    refine pm_e_sim pm_a26_4 rfl ?_
    show pm_E _ _ _ 5 [(0, .ref 0), (1, .int _)] [.int _] _ _ _ _
    refine pm_e_sim pm_a26_5 rfl ?_
    show pm_E _ _ _ 6 [(0, .ref 0), (1, .int _)] [.ref 0, .int _] _ _ _ _
    refine pm_e_rd pm_a26_6 rfl rfl rfl ?_
    show pm_E _ _ _ 9 [(0, .ref 0), (1, .int _)] [.int 0, .int _] _ _ _ _
    refine pm_e_ict pm_a26_9 rfl (pm_z_ge_t 0 (by decide +kernel) (by omega)) ?_
    show pm_E _ _ _ 30 [(0, .ref 0), (1, .int _)] [] _ _ _ _
    refine pm_e_sim pm_a26_30 rfl ?_
    show pm_E _ _ _ 31 [(0, .ref 0), (1, .int _)] [.null] _ _ _ _
    refine pm_e_ret pm_a26_31 rfl rfl rfl rfl rfl rfl rfl rfl ?_
    show pm_E _ _ _ 5 [(0, .ref 0), (1, .int _)] [.null] _ _ _ _
    refine pm_e_sim pm_a38_5 rfl ?_
    show pm_E _ _ _ 6 [(2, .null), (0, .ref 0), (1, .int _)] [] _ _ _ _
    refine pm_e_sim pm_a38_6 rfl ?_
    show pm_E _ _ _ 7 [(2, .null), (0, .ref 0), (1, .int _)] [.null] _ _ _ _
    refine pm_e_jmp (pc2 := 10) pm_a38_7 rfl rfl ?_
    show pm_E _ _ _ 10 [(2, .null), (0, .ref 0), (1, .int _)] [] _ _ _ _
    refine pm_e_sim pm_a38_10 rfl ?_
    refine pm_e_top (y := (-1)) (by decide +kernel) ?_
    show pm_E _ _ _ 11 [(2, .null), (0, .ref 0), (1, .int _)] [.int (-1)] _ _ _ _
    refine pm_e_goto pm_a38_11 rfl ?_
    show pm_E _ _ _ 18 [(2, .null), (0, .ref 0), (1, .int _)] [.int (-1)] _ _ _ _
    refine pm_e_ret pm_a38_18 rfl rfl rfl rfl rfl rfl rfl rfl ?_
    show pm_E _ _ _ 617 [(3, .int 0), (2, .ref 18), (1, .ref 0), (0, .retAddr 0)] [.int (-1)] _ _ _ _
    refine pm_e_sim pm_a0_617 rfl ?_
    show pm_E _ _ _ 618 [(3, .int 0), (2, .ref 18), (1, .ref 0), (0, .retAddr 0)] [.ref 18, .int (-1)] _ _ _ _
    refine pm_e_sim pm_a0_618 rfl ?_
    show pm_E _ _ _ 619 [(3, .int 0), (2, .ref 18), (1, .ref 0), (0, .retAddr 0)] [.retAddr 0, .ref 18, .int (-1)] _ _ _ _
    refine pm_e_sim pm_a0_619 rfl ?_
    show pm_E _ _ _ 620 [(3, .int 0), (2, .ref 18), (1, .ref 0), (0, .retAddr 0)] [.int 0, .retAddr 0, .ref 18, .int (-1)] _ _ _ _
    refine pm_e_sim pm_a0_620 rfl ?_
    refine pm_e_top (y := 1) (by decide +kernel) ?_
    show pm_E _ _ _ 621 [(3, .int 0), (2, .ref 18), (1, .ref 0), (0, .retAddr 0)] [.int 1, .int 0, .retAddr 0, .ref 18, .int (-1)] _ _ _ _
    refine pm_e_sim pm_a0_621 rfl ?_
    refine pm_e_top (y := 1) (by decide +kernel) ?_
    show pm_E _ _ _ 622 [(3, .int 0), (2, .ref 18), (1, .ref 0), (0, .retAddr 0)] [.int 1, .retAddr 0, .ref 18, .int (-1)] _ _ _ _
    refine pm_e_sld (j := 1) pm_a0_622 (by decide +kernel) ?_
    show pm_E _ _ _ 623 [(3, .int 0), (2, .ref 18), (1, .ref 0), (0, .retAddr 0)] [.int _, .ref 18, .int (-1)] _ _ _ _
    refine pm_e_call (T2 := pm_mm73) pm_a0_623 rfl rfl rfl rfl rfl rfl rfl rfl rfl ?_
    show pm_E _ _ _ 0 [(0, .ref 18), (1, .int _)] [] _ _ _ _
    refine pm_e_sim pm_a73_0 rfl ?_
    show pm_E _ _ _ 1 [(0, .ref 18), (1, .int _)] [.ref 18] _ _ _ _
    refine pm_e_sim pm_a73_1 rfl ?_
    show pm_E _ _ _ 2 [(0, .ref 18), (1, .int _)] [.int _, .ref 18] _ _ _ _
    refine pm_e_call (T2 := pm_mm61) pm_a73_2 rfl rfl rfl rfl rfl rfl rfl rfl rfl ?_
    show pm_E _ _ _ 0 [(0, .ref 18), (1, .int _)] [] _ _ _ _
    refine pm_e_sim pm_a61_0 rfl ?_
    show pm_E _ _ _ 1 [(0, .ref 18), (1, .int _)] [.int _] _ _ _ _
    refine pm_e_sim pm_a61_1 rfl ?_
    show pm_E _ _ _ 2 [(0, .ref 18), (1, .int _)] [.long _] _ _ _ _
    refine pm_e_sim pm_a61_2 rfl ?_
    show pm_E _ _ _ 3 [(0, .ref 18), (1, .int _)] [.long _, .long _] _ _ _ _
    refine pm_e_sim pm_a61_3 rfl ?_
    show pm_E _ _ _ 4 [(0, .ref 18), (1, .int _)] [.ref 18, .long _, .long _] _ _ _ _
    refine pm_e_rd pm_a61_4 rfl rfl rfl ?_
    show pm_E _ _ _ 7 [(0, .ref 18), (1, .int _)] [.int 0, .long _, .long _] _ _ _ _
    refine pm_e_sim pm_a61_7 rfl ?_
    refine pm_e_top (y := 1) (by decide +kernel) ?_
    show pm_E _ _ _ 8 [(0, .ref 18), (1, .int _)] [.int 1, .int 0, .long _, .long _] _ _ _ _
    refine pm_e_sim pm_a61_8 rfl ?_
    refine pm_e_top (y := (-1)) (by decide +kernel) ?_
    show pm_E _ _ _ 9 [(0, .ref 18), (1, .int _)] [.int (-1), .long _, .long _] _ _ _ _
    refine pm_e_sim pm_a61_9 rfl ?_
    show pm_E _ _ _ 10 [(0, .ref 18), (1, .int _)] [.long _, .long _, .long _] _ _ _ _
    refine pm_e_call (T2 := pm_mm50) pm_a61_10 rfl rfl rfl rfl rfl rfl rfl rfl rfl ?_
    show pm_E _ _ _ 0 [(0, .long _), (2, .long _), (4, .long _)] [] _ _ _ _
    refine pm_e_sim pm_a50_0 rfl ?_
    show pm_E _ _ _ 1 [(0, .long _), (2, .long _), (4, .long _)] [.long _] _ _ _ _
    refine pm_e_sim pm_a50_1 rfl ?_
    show pm_E _ _ _ 2 [(0, .long _), (2, .long _), (4, .long _)] [.long _, .long _] _ _ _ _
    refine pm_e_sim pm_a50_2 rfl ?_
    show pm_E _ _ _ 3 [(0, .long _), (2, .long _), (4, .long _)] [.int _] _ _ _ _
    refine pm_e_iff pm_a50_3 rfl (pm_zl_gt 0 (by decide +kernel) (by omega) (by decide +kernel)) ?_
    show pm_E _ _ _ 6 [(0, .long _), (2, .long _), (4, .long _)] [] _ _ _ _
    refine pm_e_sim pm_a50_6 rfl ?_
    show pm_E _ _ _ 7 [(0, .long _), (2, .long _), (4, .long _)] [.long _] _ _ _ _
    refine pm_e_sim pm_a50_7 rfl ?_
    show pm_E _ _ _ 9 [(0, .long _), (2, .long _), (4, .long _)] [.long _, .long _] _ _ _ _
    refine pm_e_sim pm_a50_9 rfl ?_
    show pm_E _ _ _ 10 [(0, .long _), (2, .long _), (4, .long _)] [.int _] _ _ _ _
    refine pm_e_ift pm_a50_10 rfl (pm_zl_gt (-1) (by decide +kernel) (by omega) (by decide +kernel)) ?_
    show pm_E _ _ _ 17 [(0, .long _), (2, .long _), (4, .long _)] [] _ _ _ _
    refine pm_e_sim pm_a50_17 rfl ?_
    refine pm_e_top (y := 0) (by decide +kernel) ?_
    show pm_E _ _ _ 18 [(0, .long _), (2, .long _), (4, .long _)] [.int 0] _ _ _ _
    refine pm_e_ret pm_a50_18 rfl rfl rfl rfl rfl rfl rfl rfl ?_
    show pm_E _ _ _ 13 [(0, .ref 18), (1, .int _)] [.int 0] _ _ _ _
    refine pm_e_ret pm_a61_13 rfl rfl rfl rfl rfl rfl rfl rfl ?_
    show pm_E _ _ _ 5 [(0, .ref 18), (1, .int _)] [.int 0] _ _ _ _
    refine pm_e_iff pm_a73_5 rfl (by decide +kernel) ?_
    show pm_E _ _ _ 8 [(0, .ref 18), (1, .int _)] [] _ _ _ _
    refine pm_e_sim pm_a73_8 rfl ?_
    refine pm_e_top (y := (-1)) (by decide +kernel) ?_
    show pm_E _ _ _ 9 [(0, .ref 18), (1, .int _)] [.int (-1)] _ _ _ _
    refine pm_e_ret pm_a73_9 rfl rfl rfl rfl rfl rfl rfl rfl ?_
    show pm_E _ _ _ 626 [(3, .int 0), (2, .ref 18), (1, .ref 0), (0, .retAddr 0)] [.int (-1), .int (-1)] _ _ _ _
    refine pm_e_ict pm_a0_626 rfl (by decide +kernel) ?_
    show pm_E _ _ _ 779 [(3, .int 0), (2, .ref 18), (1, .ref 0), (0, .retAddr 0)] [] _ _ _ _
    refine pm_e_inc (y := 6) pm_a0_779 rfl (by decide +kernel) (by decide +kernel) rfl ?_
    show pm_E _ _ _ 782 [(3, .int 6), (2, .ref 18), (1, .ref 0), (0, .retAddr 0)] [] _ _ _ _
    refine pm_e_goto pm_a0_782 rfl ?_
    show pm_E _ _ _ 18 [(3, .int 6), (2, .ref 18), (1, .ref 0), (0, .retAddr 0)] [] _ _ _ _
    refine pm_e_sim pm_a0_18 rfl ?_
    show pm_E _ _ _ 19 [(3, .int 6), (2, .ref 18), (1, .ref 0), (0, .retAddr 0)] [.int 6] _ _ _ _
    refine pm_e_sim pm_a0_19 rfl ?_
    show pm_E _ _ _ 20 [(3, .int 6), (2, .ref 18), (1, .ref 0), (0, .retAddr 0)] [.retAddr 0, .int 6] _ _ _ _
    refine pm_e_rd pm_a0_20 rfl rfl rfl ?_
    dsimp only
    refine pm_e_top (y := 6) (by decide +kernel) ?_
    show pm_E _ _ _ 21 [(3, .int 6), (2, .ref 18), (1, .ref 0), (0, .retAddr 0)] [.int 6, .int 6] _ _ _ _
    refine pm_e_sim pm_a0_21 rfl ?_
    refine pm_e_top (y := 6) (by decide +kernel) ?_
    show pm_E _ _ _ 23 [(3, .int 6), (2, .ref 18), (1, .ref 0), (0, .retAddr 0)] [.int 6, .int 6, .int 6] _ _ _ _
    refine pm_e_sim pm_a0_23 rfl ?_
    refine pm_e_top (y := 0) (by decide +kernel) ?_
    show pm_E _ _ _ 24 [(3, .int 6), (2, .ref 18), (1, .ref 0), (0, .retAddr 0)] [.int 0, .int 6] _ _ _ _
    refine pm_e_ict pm_a0_24 rfl (by decide +kernel) ?_
    show pm_E _ _ _ 785 [(3, .int 6), (2, .ref 18), (1, .ref 0), (0, .retAddr 0)] [] _ _ _ _
    refine pm_e_sim pm_a0_785 rfl ?_
    refine pm_e_top (y := 1) (by decide +kernel) ?_
    show pm_E _ _ _ 786 [(3, .int 6), (2, .ref 18), (1, .ref 0), (0, .retAddr 0)] [.int 1] _ _ _ _
    refine pm_e_ret pm_a0_786 rfl rfl rfl rfl rfl rfl rfl rfl ?_
    exact hQ _ _ _ (by decide +kernel) (by decide +kernel)
set_option maxHeartbeats 40000000 in
set_option maxRecDepth 200000 in
theorem pm_op17 (xs : Nat → Int32) {Q : Option Value → List va_E → Nat → Nat → Prop} (hQ : ∀ ph c n, c ≤ 600000 → n ≤ 7302250 → Q (some (.int 1)) ph c n) : pm_E (some (6, xs)) 11 pm_mm0 33 pm_L0 [.int (nI 17)] pm_H0 50 194358 Q := by
  refine pm_e_top (y := 17) (by decide +kernel) ?_
  rcases (show (xs 1).toInt < 0 ∨ (xs 1).toInt = 0 ∨ 0 < (xs 1).toInt by omega) with h1 | h1 | h1
  · refine pm_e_tsi (t := 631) pm_a0_33 rfl (by decide +kernel) ?_
    show pm_E _ _ _ 631 [(3, .int 0), (2, .ref 18), (1, .ref 0), (0, .retAddr 0)] [] _ _ _ _
    refine pm_e_sim pm_a0_631 rfl ?_
    show pm_E _ _ _ 632 [(3, .int 0), (2, .ref 18), (1, .ref 0), (0, .retAddr 0)] [.ref 0] _ _ _ _
    refine pm_e_sim pm_a0_632 rfl ?_
    show pm_E _ _ _ 633 [(3, .int 0), (2, .ref 18), (1, .ref 0), (0, .retAddr 0)] [.retAddr 0, .ref 0] _ _ _ _
    refine pm_e_sim pm_a0_633 rfl ?_
    show pm_E _ _ _ 634 [(3, .int 0), (2, .ref 18), (1, .ref 0), (0, .retAddr 0)] [.int 0, .retAddr 0, .ref 0] _ _ _ _
    refine pm_e_sim pm_a0_634 rfl ?_
    refine pm_e_top (y := 1) (by decide +kernel) ?_
    show pm_E _ _ _ 635 [(3, .int 0), (2, .ref 18), (1, .ref 0), (0, .retAddr 0)] [.int 1, .int 0, .retAddr 0, .ref 0] _ _ _ _
    refine pm_e_sim pm_a0_635 rfl ?_
    refine pm_e_top (y := 1) (by decide +kernel) ?_
    show pm_E _ _ _ 636 [(3, .int 0), (2, .ref 18), (1, .ref 0), (0, .retAddr 0)] [.int 1, .retAddr 0, .ref 0] _ _ _ _
    refine pm_e_sld (j := 1) pm_a0_636 (by decide +kernel) ?_
    show pm_E _ _ _ 637 [(3, .int 0), (2, .ref 18), (1, .ref 0), (0, .retAddr 0)] [.int _, .ref 0] _ _ _ _
    refine pm_e_sim pm_a0_637 rfl ?_
    show pm_E _ _ _ 638 [(3, .int 0), (2, .ref 18), (1, .ref 0), (0, .retAddr 0)] [.retAddr 0, .int _, .ref 0] _ _ _ _
    refine pm_e_sim pm_a0_638 rfl ?_
    show pm_E _ _ _ 639 [(3, .int 0), (2, .ref 18), (1, .ref 0), (0, .retAddr 0)] [.int 0, .retAddr 0, .int _, .ref 0] _ _ _ _
    refine pm_e_sim pm_a0_639 rfl ?_
    refine pm_e_top (y := 2) (by decide +kernel) ?_
    show pm_E _ _ _ 640 [(3, .int 0), (2, .ref 18), (1, .ref 0), (0, .retAddr 0)] [.int 2, .int 0, .retAddr 0, .int _, .ref 0] _ _ _ _
    refine pm_e_sim pm_a0_640 rfl ?_
    refine pm_e_top (y := 2) (by decide +kernel) ?_
    show pm_E _ _ _ 641 [(3, .int 0), (2, .ref 18), (1, .ref 0), (0, .retAddr 0)] [.int 2, .retAddr 0, .int _, .ref 0] _ _ _ _
    refine pm_e_sld (j := 2) pm_a0_641 (by decide +kernel) ?_
    show pm_E _ _ _ 642 [(3, .int 0), (2, .ref 18), (1, .ref 0), (0, .retAddr 0)] [.int _, .int _, .ref 0] _ _ _ _
    refine pm_e_call (T2 := pm_mm39) pm_a0_642 rfl rfl rfl rfl rfl rfl rfl rfl rfl ?_
    show pm_E _ _ _ 0 [(0, .ref 0), (1, .int _), (2, .int _)] [] _ _ _ _
    refine pm_e_sim pm_a39_0 rfl ?_
    show pm_E _ _ _ 1 [(0, .ref 0), (1, .int _), (2, .int _)] [.ref 0] _ _ _ _
    refine pm_e_sim pm_a39_1 rfl ?_
    show pm_E _ _ _ 2 [(0, .ref 0), (1, .int _), (2, .int _)] [.int _, .ref 0] _ _ _ _
    refine pm_e_call (T2 := pm_mm26) pm_a39_2 rfl rfl rfl rfl rfl rfl rfl rfl rfl ?_
    show pm_E _ _ _ 0 [(0, .ref 0), (1, .int _)] [] _ _ _ _
    refine pm_e_sim pm_a26_0 rfl ?_
    show pm_E _ _ _ 1 [(0, .ref 0), (1, .int _)] [.int _] _ _ _ _
    refine pm_e_ift pm_a26_1 rfl (pm_z_lt_t 0 (by decide +kernel) (by omega)) ?_
    show pm_E _ _ _ 30 [(0, .ref 0), (1, .int _)] [] _ _ _ _
    refine pm_e_sim pm_a26_30 rfl ?_
    show pm_E _ _ _ 31 [(0, .ref 0), (1, .int _)] [.null] _ _ _ _
    refine pm_e_ret pm_a26_31 rfl rfl rfl rfl rfl rfl rfl rfl ?_
    show pm_E _ _ _ 5 [(0, .ref 0), (1, .int _), (2, .int _)] [.null] _ _ _ _
    refine pm_e_sim pm_a39_5 rfl ?_
    show pm_E _ _ _ 6 [(3, .null), (0, .ref 0), (1, .int _), (2, .int _)] [] _ _ _ _
    refine pm_e_sim pm_a39_6 rfl ?_
    show pm_E _ _ _ 7 [(3, .null), (0, .ref 0), (1, .int _), (2, .int _)] [.null] _ _ _ _
    refine pm_e_jmp (pc2 := 17) pm_a39_7 rfl rfl ?_
    show pm_E _ _ _ 17 [(3, .null), (0, .ref 0), (1, .int _), (2, .int _)] [] _ _ _ _
    refine pm_e_sim pm_a39_17 rfl ?_
    refine pm_e_top (y := (-1)) (by decide +kernel) ?_
    show pm_E _ _ _ 18 [(3, .null), (0, .ref 0), (1, .int _), (2, .int _)] [.int (-1)] _ _ _ _
    refine pm_e_ret pm_a39_18 rfl rfl rfl rfl rfl rfl rfl rfl ?_
    show pm_E _ _ _ 645 [(3, .int 0), (2, .ref 18), (1, .ref 0), (0, .retAddr 0)] [.int (-1)] _ _ _ _
    refine pm_e_sim pm_a0_645 rfl ?_
    show pm_E _ _ _ 646 [(3, .int 0), (2, .ref 18), (1, .ref 0), (0, .retAddr 0)] [.ref 18, .int (-1)] _ _ _ _
    refine pm_e_sim pm_a0_646 rfl ?_
    show pm_E _ _ _ 647 [(3, .int 0), (2, .ref 18), (1, .ref 0), (0, .retAddr 0)] [.retAddr 0, .ref 18, .int (-1)] _ _ _ _
    refine pm_e_sim pm_a0_647 rfl ?_
    show pm_E _ _ _ 648 [(3, .int 0), (2, .ref 18), (1, .ref 0), (0, .retAddr 0)] [.int 0, .retAddr 0, .ref 18, .int (-1)] _ _ _ _
    refine pm_e_sim pm_a0_648 rfl ?_
    refine pm_e_top (y := 1) (by decide +kernel) ?_
    show pm_E _ _ _ 649 [(3, .int 0), (2, .ref 18), (1, .ref 0), (0, .retAddr 0)] [.int 1, .int 0, .retAddr 0, .ref 18, .int (-1)] _ _ _ _
    refine pm_e_sim pm_a0_649 rfl ?_
    refine pm_e_top (y := 1) (by decide +kernel) ?_
    show pm_E _ _ _ 650 [(3, .int 0), (2, .ref 18), (1, .ref 0), (0, .retAddr 0)] [.int 1, .retAddr 0, .ref 18, .int (-1)] _ _ _ _
    refine pm_e_sld (j := 1) pm_a0_650 (by decide +kernel) ?_
    show pm_E _ _ _ 651 [(3, .int 0), (2, .ref 18), (1, .ref 0), (0, .retAddr 0)] [.int _, .ref 18, .int (-1)] _ _ _ _
    refine pm_e_sim pm_a0_651 rfl ?_
    show pm_E _ _ _ 652 [(3, .int 0), (2, .ref 18), (1, .ref 0), (0, .retAddr 0)] [.retAddr 0, .int _, .ref 18, .int (-1)] _ _ _ _
    refine pm_e_sim pm_a0_652 rfl ?_
    show pm_E _ _ _ 653 [(3, .int 0), (2, .ref 18), (1, .ref 0), (0, .retAddr 0)] [.int 0, .retAddr 0, .int _, .ref 18, .int (-1)] _ _ _ _
    refine pm_e_sim pm_a0_653 rfl ?_
    refine pm_e_top (y := 2) (by decide +kernel) ?_
    show pm_E _ _ _ 654 [(3, .int 0), (2, .ref 18), (1, .ref 0), (0, .retAddr 0)] [.int 2, .int 0, .retAddr 0, .int _, .ref 18, .int (-1)] _ _ _ _
    refine pm_e_sim pm_a0_654 rfl ?_
    refine pm_e_top (y := 2) (by decide +kernel) ?_
    show pm_E _ _ _ 655 [(3, .int 0), (2, .ref 18), (1, .ref 0), (0, .retAddr 0)] [.int 2, .retAddr 0, .int _, .ref 18, .int (-1)] _ _ _ _
    refine pm_e_sld (j := 2) pm_a0_655 (by decide +kernel) ?_
    show pm_E _ _ _ 656 [(3, .int 0), (2, .ref 18), (1, .ref 0), (0, .retAddr 0)] [.int _, .int _, .ref 18, .int (-1)] _ _ _ _
    refine pm_e_call (T2 := pm_mm74) pm_a0_656 rfl rfl rfl rfl rfl rfl rfl rfl rfl ?_
    show pm_E _ _ _ 0 [(0, .ref 18), (1, .int _), (2, .int _)] [] _ _ _ _
    refine pm_e_sim pm_a74_0 rfl ?_
    show pm_E _ _ _ 1 [(0, .ref 18), (1, .int _), (2, .int _)] [.ref 18] _ _ _ _
    refine pm_e_sim pm_a74_1 rfl ?_
    show pm_E _ _ _ 2 [(0, .ref 18), (1, .int _), (2, .int _)] [.int _, .ref 18] _ _ _ _
    refine pm_e_call (T2 := pm_mm61) pm_a74_2 rfl rfl rfl rfl rfl rfl rfl rfl rfl ?_
    show pm_E _ _ _ 0 [(0, .ref 18), (1, .int _)] [] _ _ _ _
    refine pm_e_sim pm_a61_0 rfl ?_
    show pm_E _ _ _ 1 [(0, .ref 18), (1, .int _)] [.int _] _ _ _ _
    refine pm_e_sim pm_a61_1 rfl ?_
    show pm_E _ _ _ 2 [(0, .ref 18), (1, .int _)] [.long _] _ _ _ _
    refine pm_e_sim pm_a61_2 rfl ?_
    show pm_E _ _ _ 3 [(0, .ref 18), (1, .int _)] [.long _, .long _] _ _ _ _
    refine pm_e_sim pm_a61_3 rfl ?_
    show pm_E _ _ _ 4 [(0, .ref 18), (1, .int _)] [.ref 18, .long _, .long _] _ _ _ _
    refine pm_e_rd pm_a61_4 rfl rfl rfl ?_
    show pm_E _ _ _ 7 [(0, .ref 18), (1, .int _)] [.int 0, .long _, .long _] _ _ _ _
    refine pm_e_sim pm_a61_7 rfl ?_
    refine pm_e_top (y := 1) (by decide +kernel) ?_
    show pm_E _ _ _ 8 [(0, .ref 18), (1, .int _)] [.int 1, .int 0, .long _, .long _] _ _ _ _
    refine pm_e_sim pm_a61_8 rfl ?_
    refine pm_e_top (y := (-1)) (by decide +kernel) ?_
    show pm_E _ _ _ 9 [(0, .ref 18), (1, .int _)] [.int (-1), .long _, .long _] _ _ _ _
    refine pm_e_sim pm_a61_9 rfl ?_
    show pm_E _ _ _ 10 [(0, .ref 18), (1, .int _)] [.long _, .long _, .long _] _ _ _ _
    refine pm_e_call (T2 := pm_mm50) pm_a61_10 rfl rfl rfl rfl rfl rfl rfl rfl rfl ?_
    show pm_E _ _ _ 0 [(0, .long _), (2, .long _), (4, .long _)] [] _ _ _ _
    refine pm_e_sim pm_a50_0 rfl ?_
    show pm_E _ _ _ 1 [(0, .long _), (2, .long _), (4, .long _)] [.long _] _ _ _ _
    refine pm_e_sim pm_a50_1 rfl ?_
    show pm_E _ _ _ 2 [(0, .long _), (2, .long _), (4, .long _)] [.long _, .long _] _ _ _ _
    refine pm_e_sim pm_a50_2 rfl ?_
    show pm_E _ _ _ 3 [(0, .long _), (2, .long _), (4, .long _)] [.int _] _ _ _ _
    refine pm_e_ift pm_a50_3 rfl (pm_zl_lt 0 (by decide +kernel) (by omega) (by decide +kernel)) ?_
    show pm_E _ _ _ 17 [(0, .long _), (2, .long _), (4, .long _)] [] _ _ _ _
    refine pm_e_sim pm_a50_17 rfl ?_
    refine pm_e_top (y := 0) (by decide +kernel) ?_
    show pm_E _ _ _ 18 [(0, .long _), (2, .long _), (4, .long _)] [.int 0] _ _ _ _
    refine pm_e_ret pm_a50_18 rfl rfl rfl rfl rfl rfl rfl rfl ?_
    show pm_E _ _ _ 13 [(0, .ref 18), (1, .int _)] [.int 0] _ _ _ _
    refine pm_e_ret pm_a61_13 rfl rfl rfl rfl rfl rfl rfl rfl ?_
    show pm_E _ _ _ 5 [(0, .ref 18), (1, .int _), (2, .int _)] [.int 0] _ _ _ _
    refine pm_e_ift pm_a74_5 rfl (by decide +kernel) ?_
    show pm_E _ _ _ 20 [(0, .ref 18), (1, .int _), (2, .int _)] [] _ _ _ _
    refine pm_e_sim pm_a74_20 rfl ?_
    refine pm_e_top (y := (-1)) (by decide +kernel) ?_
    show pm_E _ _ _ 21 [(0, .ref 18), (1, .int _), (2, .int _)] [.int (-1)] _ _ _ _
    refine pm_e_ret pm_a74_21 rfl rfl rfl rfl rfl rfl rfl rfl ?_
    show pm_E _ _ _ 659 [(3, .int 0), (2, .ref 18), (1, .ref 0), (0, .retAddr 0)] [.int (-1), .int (-1)] _ _ _ _
    refine pm_e_ict pm_a0_659 rfl (by decide +kernel) ?_
    show pm_E _ _ _ 779 [(3, .int 0), (2, .ref 18), (1, .ref 0), (0, .retAddr 0)] [] _ _ _ _
    refine pm_e_inc (y := 6) pm_a0_779 rfl (by decide +kernel) (by decide +kernel) rfl ?_
    show pm_E _ _ _ 782 [(3, .int 6), (2, .ref 18), (1, .ref 0), (0, .retAddr 0)] [] _ _ _ _
    refine pm_e_goto pm_a0_782 rfl ?_
    show pm_E _ _ _ 18 [(3, .int 6), (2, .ref 18), (1, .ref 0), (0, .retAddr 0)] [] _ _ _ _
    refine pm_e_sim pm_a0_18 rfl ?_
    show pm_E _ _ _ 19 [(3, .int 6), (2, .ref 18), (1, .ref 0), (0, .retAddr 0)] [.int 6] _ _ _ _
    refine pm_e_sim pm_a0_19 rfl ?_
    show pm_E _ _ _ 20 [(3, .int 6), (2, .ref 18), (1, .ref 0), (0, .retAddr 0)] [.retAddr 0, .int 6] _ _ _ _
    refine pm_e_rd pm_a0_20 rfl rfl rfl ?_
    dsimp only
    refine pm_e_top (y := 6) (by decide +kernel) ?_
    show pm_E _ _ _ 21 [(3, .int 6), (2, .ref 18), (1, .ref 0), (0, .retAddr 0)] [.int 6, .int 6] _ _ _ _
    refine pm_e_sim pm_a0_21 rfl ?_
    refine pm_e_top (y := 6) (by decide +kernel) ?_
    show pm_E _ _ _ 23 [(3, .int 6), (2, .ref 18), (1, .ref 0), (0, .retAddr 0)] [.int 6, .int 6, .int 6] _ _ _ _
    refine pm_e_sim pm_a0_23 rfl ?_
    refine pm_e_top (y := 0) (by decide +kernel) ?_
    show pm_E _ _ _ 24 [(3, .int 6), (2, .ref 18), (1, .ref 0), (0, .retAddr 0)] [.int 0, .int 6] _ _ _ _
    refine pm_e_ict pm_a0_24 rfl (by decide +kernel) ?_
    show pm_E _ _ _ 785 [(3, .int 6), (2, .ref 18), (1, .ref 0), (0, .retAddr 0)] [] _ _ _ _
    refine pm_e_sim pm_a0_785 rfl ?_
    refine pm_e_top (y := 1) (by decide +kernel) ?_
    show pm_E _ _ _ 786 [(3, .int 6), (2, .ref 18), (1, .ref 0), (0, .retAddr 0)] [.int 1] _ _ _ _
    refine pm_e_ret pm_a0_786 rfl rfl rfl rfl rfl rfl rfl rfl ?_
    exact hQ _ _ _ (by decide +kernel) (by decide +kernel)
  · refine pm_e_tsi (t := 631) pm_a0_33 rfl (by decide +kernel) ?_
    show pm_E _ _ _ 631 [(3, .int 0), (2, .ref 18), (1, .ref 0), (0, .retAddr 0)] [] _ _ _ _
    refine pm_e_sim pm_a0_631 rfl ?_
    show pm_E _ _ _ 632 [(3, .int 0), (2, .ref 18), (1, .ref 0), (0, .retAddr 0)] [.ref 0] _ _ _ _
    refine pm_e_sim pm_a0_632 rfl ?_
    show pm_E _ _ _ 633 [(3, .int 0), (2, .ref 18), (1, .ref 0), (0, .retAddr 0)] [.retAddr 0, .ref 0] _ _ _ _
    refine pm_e_sim pm_a0_633 rfl ?_
    show pm_E _ _ _ 634 [(3, .int 0), (2, .ref 18), (1, .ref 0), (0, .retAddr 0)] [.int 0, .retAddr 0, .ref 0] _ _ _ _
    refine pm_e_sim pm_a0_634 rfl ?_
    refine pm_e_top (y := 1) (by decide +kernel) ?_
    show pm_E _ _ _ 635 [(3, .int 0), (2, .ref 18), (1, .ref 0), (0, .retAddr 0)] [.int 1, .int 0, .retAddr 0, .ref 0] _ _ _ _
    refine pm_e_sim pm_a0_635 rfl ?_
    refine pm_e_top (y := 1) (by decide +kernel) ?_
    show pm_E _ _ _ 636 [(3, .int 0), (2, .ref 18), (1, .ref 0), (0, .retAddr 0)] [.int 1, .retAddr 0, .ref 0] _ _ _ _
    refine pm_e_sld (j := 1) pm_a0_636 (by decide +kernel) ?_
    show pm_E _ _ _ 637 [(3, .int 0), (2, .ref 18), (1, .ref 0), (0, .retAddr 0)] [.int _, .ref 0] _ _ _ _
    refine pm_e_sim pm_a0_637 rfl ?_
    show pm_E _ _ _ 638 [(3, .int 0), (2, .ref 18), (1, .ref 0), (0, .retAddr 0)] [.retAddr 0, .int _, .ref 0] _ _ _ _
    refine pm_e_sim pm_a0_638 rfl ?_
    show pm_E _ _ _ 639 [(3, .int 0), (2, .ref 18), (1, .ref 0), (0, .retAddr 0)] [.int 0, .retAddr 0, .int _, .ref 0] _ _ _ _
    refine pm_e_sim pm_a0_639 rfl ?_
    refine pm_e_top (y := 2) (by decide +kernel) ?_
    show pm_E _ _ _ 640 [(3, .int 0), (2, .ref 18), (1, .ref 0), (0, .retAddr 0)] [.int 2, .int 0, .retAddr 0, .int _, .ref 0] _ _ _ _
    refine pm_e_sim pm_a0_640 rfl ?_
    refine pm_e_top (y := 2) (by decide +kernel) ?_
    show pm_E _ _ _ 641 [(3, .int 0), (2, .ref 18), (1, .ref 0), (0, .retAddr 0)] [.int 2, .retAddr 0, .int _, .ref 0] _ _ _ _
    refine pm_e_sld (j := 2) pm_a0_641 (by decide +kernel) ?_
    show pm_E _ _ _ 642 [(3, .int 0), (2, .ref 18), (1, .ref 0), (0, .retAddr 0)] [.int _, .int _, .ref 0] _ _ _ _
    refine pm_e_call (T2 := pm_mm39) pm_a0_642 rfl rfl rfl rfl rfl rfl rfl rfl rfl ?_
    show pm_E _ _ _ 0 [(0, .ref 0), (1, .int _), (2, .int _)] [] _ _ _ _
    refine pm_e_sim pm_a39_0 rfl ?_
    show pm_E _ _ _ 1 [(0, .ref 0), (1, .int _), (2, .int _)] [.ref 0] _ _ _ _
    refine pm_e_sim pm_a39_1 rfl ?_
    show pm_E _ _ _ 2 [(0, .ref 0), (1, .int _), (2, .int _)] [.int _, .ref 0] _ _ _ _
    refine pm_e_call (T2 := pm_mm26) pm_a39_2 rfl rfl rfl rfl rfl rfl rfl rfl rfl ?_
    show pm_E _ _ _ 0 [(0, .ref 0), (1, .int _)] [] _ _ _ _
    refine pm_e_sim pm_a26_0 rfl ?_
    show pm_E _ _ _ 1 [(0, .ref 0), (1, .int _)] [.int _] _ _ _ _
    refine pm_e_iff pm_a26_1 rfl (pm_z_lt_f 0 (by decide +kernel) (by omega)) ?_
    show pm_E _ _ _ 4 [(0, .ref 0), (1, .int _)] [] _ _ _ _
    refine pm_e_sim pm_a26_4 rfl ?_
    show pm_E _ _ _ 5 [(0, .ref 0), (1, .int _)] [.int _] _ _ _ _
    refine pm_e_sim pm_a26_5 rfl ?_
    show pm_E _ _ _ 6 [(0, .ref 0), (1, .int _)] [.ref 0, .int _] _ _ _ _
    refine pm_e_rd pm_a26_6 rfl rfl rfl ?_
    show pm_E _ _ _ 9 [(0, .ref 0), (1, .int _)] [.int 0, .int _] _ _ _ _
    refine pm_e_ict pm_a26_9 rfl (pm_z_ge_t 0 (by decide +kernel) (by omega)) ?_
    show pm_E _ _ _ 30 [(0, .ref 0), (1, .int _)] [] _ _ _ _
    refine pm_e_sim pm_a26_30 rfl ?_
    show pm_E _ _ _ 31 [(0, .ref 0), (1, .int _)] [.null] _ _ _ _
    refine pm_e_ret pm_a26_31 rfl rfl rfl rfl rfl rfl rfl rfl ?_
    show pm_E _ _ _ 5 [(0, .ref 0), (1, .int _), (2, .int _)] [.null] _ _ _ _
    refine pm_e_sim pm_a39_5 rfl ?_
    show pm_E _ _ _ 6 [(3, .null), (0, .ref 0), (1, .int _), (2, .int _)] [] _ _ _ _
    refine pm_e_sim pm_a39_6 rfl ?_
    show pm_E _ _ _ 7 [(3, .null), (0, .ref 0), (1, .int _), (2, .int _)] [.null] _ _ _ _
    refine pm_e_jmp (pc2 := 17) pm_a39_7 rfl rfl ?_
    show pm_E _ _ _ 17 [(3, .null), (0, .ref 0), (1, .int _), (2, .int _)] [] _ _ _ _
    refine pm_e_sim pm_a39_17 rfl ?_
    refine pm_e_top (y := (-1)) (by decide +kernel) ?_
    show pm_E _ _ _ 18 [(3, .null), (0, .ref 0), (1, .int _), (2, .int _)] [.int (-1)] _ _ _ _
    refine pm_e_ret pm_a39_18 rfl rfl rfl rfl rfl rfl rfl rfl ?_
    show pm_E _ _ _ 645 [(3, .int 0), (2, .ref 18), (1, .ref 0), (0, .retAddr 0)] [.int (-1)] _ _ _ _
    refine pm_e_sim pm_a0_645 rfl ?_
    show pm_E _ _ _ 646 [(3, .int 0), (2, .ref 18), (1, .ref 0), (0, .retAddr 0)] [.ref 18, .int (-1)] _ _ _ _
    refine pm_e_sim pm_a0_646 rfl ?_
    show pm_E _ _ _ 647 [(3, .int 0), (2, .ref 18), (1, .ref 0), (0, .retAddr 0)] [.retAddr 0, .ref 18, .int (-1)] _ _ _ _
    refine pm_e_sim pm_a0_647 rfl ?_
    show pm_E _ _ _ 648 [(3, .int 0), (2, .ref 18), (1, .ref 0), (0, .retAddr 0)] [.int 0, .retAddr 0, .ref 18, .int (-1)] _ _ _ _
    refine pm_e_sim pm_a0_648 rfl ?_
    refine pm_e_top (y := 1) (by decide +kernel) ?_
    show pm_E _ _ _ 649 [(3, .int 0), (2, .ref 18), (1, .ref 0), (0, .retAddr 0)] [.int 1, .int 0, .retAddr 0, .ref 18, .int (-1)] _ _ _ _
    refine pm_e_sim pm_a0_649 rfl ?_
    refine pm_e_top (y := 1) (by decide +kernel) ?_
    show pm_E _ _ _ 650 [(3, .int 0), (2, .ref 18), (1, .ref 0), (0, .retAddr 0)] [.int 1, .retAddr 0, .ref 18, .int (-1)] _ _ _ _
    refine pm_e_sld (j := 1) pm_a0_650 (by decide +kernel) ?_
    show pm_E _ _ _ 651 [(3, .int 0), (2, .ref 18), (1, .ref 0), (0, .retAddr 0)] [.int _, .ref 18, .int (-1)] _ _ _ _
    refine pm_e_sim pm_a0_651 rfl ?_
    show pm_E _ _ _ 652 [(3, .int 0), (2, .ref 18), (1, .ref 0), (0, .retAddr 0)] [.retAddr 0, .int _, .ref 18, .int (-1)] _ _ _ _
    refine pm_e_sim pm_a0_652 rfl ?_
    show pm_E _ _ _ 653 [(3, .int 0), (2, .ref 18), (1, .ref 0), (0, .retAddr 0)] [.int 0, .retAddr 0, .int _, .ref 18, .int (-1)] _ _ _ _
    refine pm_e_sim pm_a0_653 rfl ?_
    refine pm_e_top (y := 2) (by decide +kernel) ?_
    show pm_E _ _ _ 654 [(3, .int 0), (2, .ref 18), (1, .ref 0), (0, .retAddr 0)] [.int 2, .int 0, .retAddr 0, .int _, .ref 18, .int (-1)] _ _ _ _
    refine pm_e_sim pm_a0_654 rfl ?_
    refine pm_e_top (y := 2) (by decide +kernel) ?_
    show pm_E _ _ _ 655 [(3, .int 0), (2, .ref 18), (1, .ref 0), (0, .retAddr 0)] [.int 2, .retAddr 0, .int _, .ref 18, .int (-1)] _ _ _ _
    refine pm_e_sld (j := 2) pm_a0_655 (by decide +kernel) ?_
    show pm_E _ _ _ 656 [(3, .int 0), (2, .ref 18), (1, .ref 0), (0, .retAddr 0)] [.int _, .int _, .ref 18, .int (-1)] _ _ _ _
    refine pm_e_call (T2 := pm_mm74) pm_a0_656 rfl rfl rfl rfl rfl rfl rfl rfl rfl ?_
    show pm_E _ _ _ 0 [(0, .ref 18), (1, .int _), (2, .int _)] [] _ _ _ _
    refine pm_e_sim pm_a74_0 rfl ?_
    show pm_E _ _ _ 1 [(0, .ref 18), (1, .int _), (2, .int _)] [.ref 18] _ _ _ _
    refine pm_e_sim pm_a74_1 rfl ?_
    show pm_E _ _ _ 2 [(0, .ref 18), (1, .int _), (2, .int _)] [.int _, .ref 18] _ _ _ _
    refine pm_e_call (T2 := pm_mm61) pm_a74_2 rfl rfl rfl rfl rfl rfl rfl rfl rfl ?_
    show pm_E _ _ _ 0 [(0, .ref 18), (1, .int _)] [] _ _ _ _
    refine pm_e_sim pm_a61_0 rfl ?_
    show pm_E _ _ _ 1 [(0, .ref 18), (1, .int _)] [.int _] _ _ _ _
    refine pm_e_sim pm_a61_1 rfl ?_
    show pm_E _ _ _ 2 [(0, .ref 18), (1, .int _)] [.long _] _ _ _ _
    refine pm_e_sim pm_a61_2 rfl ?_
    show pm_E _ _ _ 3 [(0, .ref 18), (1, .int _)] [.long _, .long _] _ _ _ _
    refine pm_e_sim pm_a61_3 rfl ?_
    show pm_E _ _ _ 4 [(0, .ref 18), (1, .int _)] [.ref 18, .long _, .long _] _ _ _ _
    refine pm_e_rd pm_a61_4 rfl rfl rfl ?_
    show pm_E _ _ _ 7 [(0, .ref 18), (1, .int _)] [.int 0, .long _, .long _] _ _ _ _
    refine pm_e_sim pm_a61_7 rfl ?_
    refine pm_e_top (y := 1) (by decide +kernel) ?_
    show pm_E _ _ _ 8 [(0, .ref 18), (1, .int _)] [.int 1, .int 0, .long _, .long _] _ _ _ _
    refine pm_e_sim pm_a61_8 rfl ?_
    refine pm_e_top (y := (-1)) (by decide +kernel) ?_
    show pm_E _ _ _ 9 [(0, .ref 18), (1, .int _)] [.int (-1), .long _, .long _] _ _ _ _
    refine pm_e_sim pm_a61_9 rfl ?_
    show pm_E _ _ _ 10 [(0, .ref 18), (1, .int _)] [.long _, .long _, .long _] _ _ _ _
    refine pm_e_call (T2 := pm_mm50) pm_a61_10 rfl rfl rfl rfl rfl rfl rfl rfl rfl ?_
    show pm_E _ _ _ 0 [(0, .long _), (2, .long _), (4, .long _)] [] _ _ _ _
    refine pm_e_sim pm_a50_0 rfl ?_
    show pm_E _ _ _ 1 [(0, .long _), (2, .long _), (4, .long _)] [.long _] _ _ _ _
    refine pm_e_sim pm_a50_1 rfl ?_
    show pm_E _ _ _ 2 [(0, .long _), (2, .long _), (4, .long _)] [.long _, .long _] _ _ _ _
    refine pm_e_sim pm_a50_2 rfl ?_
    show pm_E _ _ _ 3 [(0, .long _), (2, .long _), (4, .long _)] [.int _] _ _ _ _
    refine pm_e_iff pm_a50_3 rfl (pm_zl_eq 0 (by decide +kernel) (by omega) (by decide +kernel)) ?_
    show pm_E _ _ _ 6 [(0, .long _), (2, .long _), (4, .long _)] [] _ _ _ _
    refine pm_e_sim pm_a50_6 rfl ?_
    show pm_E _ _ _ 7 [(0, .long _), (2, .long _), (4, .long _)] [.long _] _ _ _ _
    refine pm_e_sim pm_a50_7 rfl ?_
    show pm_E _ _ _ 9 [(0, .long _), (2, .long _), (4, .long _)] [.long _, .long _] _ _ _ _
    refine pm_e_sim pm_a50_9 rfl ?_
    show pm_E _ _ _ 10 [(0, .long _), (2, .long _), (4, .long _)] [.int _] _ _ _ _
    refine pm_e_ift pm_a50_10 rfl (pm_zl_gt (-1) (by decide +kernel) (by omega) (by decide +kernel)) ?_
    show pm_E _ _ _ 17 [(0, .long _), (2, .long _), (4, .long _)] [] _ _ _ _
    refine pm_e_sim pm_a50_17 rfl ?_
    refine pm_e_top (y := 0) (by decide +kernel) ?_
    show pm_E _ _ _ 18 [(0, .long _), (2, .long _), (4, .long _)] [.int 0] _ _ _ _
    refine pm_e_ret pm_a50_18 rfl rfl rfl rfl rfl rfl rfl rfl ?_
    show pm_E _ _ _ 13 [(0, .ref 18), (1, .int _)] [.int 0] _ _ _ _
    refine pm_e_ret pm_a61_13 rfl rfl rfl rfl rfl rfl rfl rfl ?_
    show pm_E _ _ _ 5 [(0, .ref 18), (1, .int _), (2, .int _)] [.int 0] _ _ _ _
    refine pm_e_ift pm_a74_5 rfl (by decide +kernel) ?_
    show pm_E _ _ _ 20 [(0, .ref 18), (1, .int _), (2, .int _)] [] _ _ _ _
    refine pm_e_sim pm_a74_20 rfl ?_
    refine pm_e_top (y := (-1)) (by decide +kernel) ?_
    show pm_E _ _ _ 21 [(0, .ref 18), (1, .int _), (2, .int _)] [.int (-1)] _ _ _ _
    refine pm_e_ret pm_a74_21 rfl rfl rfl rfl rfl rfl rfl rfl ?_
    show pm_E _ _ _ 659 [(3, .int 0), (2, .ref 18), (1, .ref 0), (0, .retAddr 0)] [.int (-1), .int (-1)] _ _ _ _
    refine pm_e_ict pm_a0_659 rfl (by decide +kernel) ?_
    show pm_E _ _ _ 779 [(3, .int 0), (2, .ref 18), (1, .ref 0), (0, .retAddr 0)] [] _ _ _ _
    refine pm_e_inc (y := 6) pm_a0_779 rfl (by decide +kernel) (by decide +kernel) rfl ?_
    show pm_E _ _ _ 782 [(3, .int 6), (2, .ref 18), (1, .ref 0), (0, .retAddr 0)] [] _ _ _ _
    refine pm_e_goto pm_a0_782 rfl ?_
    show pm_E _ _ _ 18 [(3, .int 6), (2, .ref 18), (1, .ref 0), (0, .retAddr 0)] [] _ _ _ _
    refine pm_e_sim pm_a0_18 rfl ?_
    show pm_E _ _ _ 19 [(3, .int 6), (2, .ref 18), (1, .ref 0), (0, .retAddr 0)] [.int 6] _ _ _ _
    refine pm_e_sim pm_a0_19 rfl ?_
    show pm_E _ _ _ 20 [(3, .int 6), (2, .ref 18), (1, .ref 0), (0, .retAddr 0)] [.retAddr 0, .int 6] _ _ _ _
    refine pm_e_rd pm_a0_20 rfl rfl rfl ?_
    dsimp only
    refine pm_e_top (y := 6) (by decide +kernel) ?_
    show pm_E _ _ _ 21 [(3, .int 6), (2, .ref 18), (1, .ref 0), (0, .retAddr 0)] [.int 6, .int 6] _ _ _ _
    refine pm_e_sim pm_a0_21 rfl ?_
    refine pm_e_top (y := 6) (by decide +kernel) ?_
    show pm_E _ _ _ 23 [(3, .int 6), (2, .ref 18), (1, .ref 0), (0, .retAddr 0)] [.int 6, .int 6, .int 6] _ _ _ _
    refine pm_e_sim pm_a0_23 rfl ?_
    refine pm_e_top (y := 0) (by decide +kernel) ?_
    show pm_E _ _ _ 24 [(3, .int 6), (2, .ref 18), (1, .ref 0), (0, .retAddr 0)] [.int 0, .int 6] _ _ _ _
    refine pm_e_ict pm_a0_24 rfl (by decide +kernel) ?_
    show pm_E _ _ _ 785 [(3, .int 6), (2, .ref 18), (1, .ref 0), (0, .retAddr 0)] [] _ _ _ _
    refine pm_e_sim pm_a0_785 rfl ?_
    refine pm_e_top (y := 1) (by decide +kernel) ?_
    show pm_E _ _ _ 786 [(3, .int 6), (2, .ref 18), (1, .ref 0), (0, .retAddr 0)] [.int 1] _ _ _ _
    refine pm_e_ret pm_a0_786 rfl rfl rfl rfl rfl rfl rfl rfl ?_
    exact hQ _ _ _ (by decide +kernel) (by decide +kernel)
  · refine pm_e_tsi (t := 631) pm_a0_33 rfl (by decide +kernel) ?_
    show pm_E _ _ _ 631 [(3, .int 0), (2, .ref 18), (1, .ref 0), (0, .retAddr 0)] [] _ _ _ _
    refine pm_e_sim pm_a0_631 rfl ?_
    show pm_E _ _ _ 632 [(3, .int 0), (2, .ref 18), (1, .ref 0), (0, .retAddr 0)] [.ref 0] _ _ _ _
    refine pm_e_sim pm_a0_632 rfl ?_
    show pm_E _ _ _ 633 [(3, .int 0), (2, .ref 18), (1, .ref 0), (0, .retAddr 0)] [.retAddr 0, .ref 0] _ _ _ _
    refine pm_e_sim pm_a0_633 rfl ?_
    show pm_E _ _ _ 634 [(3, .int 0), (2, .ref 18), (1, .ref 0), (0, .retAddr 0)] [.int 0, .retAddr 0, .ref 0] _ _ _ _
    refine pm_e_sim pm_a0_634 rfl ?_
    refine pm_e_top (y := 1) (by decide +kernel) ?_
    show pm_E _ _ _ 635 [(3, .int 0), (2, .ref 18), (1, .ref 0), (0, .retAddr 0)] [.int 1, .int 0, .retAddr 0, .ref 0] _ _ _ _
    refine pm_e_sim pm_a0_635 rfl ?_
    refine pm_e_top (y := 1) (by decide +kernel) ?_
    show pm_E _ _ _ 636 [(3, .int 0), (2, .ref 18), (1, .ref 0), (0, .retAddr 0)] [.int 1, .retAddr 0, .ref 0] _ _ _ _
    refine pm_e_sld (j := 1) pm_a0_636 (by decide +kernel) ?_
    show pm_E _ _ _ 637 [(3, .int 0), (2, .ref 18), (1, .ref 0), (0, .retAddr 0)] [.int _, .ref 0] _ _ _ _
    refine pm_e_sim pm_a0_637 rfl ?_
    show pm_E _ _ _ 638 [(3, .int 0), (2, .ref 18), (1, .ref 0), (0, .retAddr 0)] [.retAddr 0, .int _, .ref 0] _ _ _ _
    refine pm_e_sim pm_a0_638 rfl ?_
    show pm_E _ _ _ 639 [(3, .int 0), (2, .ref 18), (1, .ref 0), (0, .retAddr 0)] [.int 0, .retAddr 0, .int _, .ref 0] _ _ _ _
    refine pm_e_sim pm_a0_639 rfl ?_
    refine pm_e_top (y := 2) (by decide +kernel) ?_
    show pm_E _ _ _ 640 [(3, .int 0), (2, .ref 18), (1, .ref 0), (0, .retAddr 0)] [.int 2, .int 0, .retAddr 0, .int _, .ref 0] _ _ _ _
    refine pm_e_sim pm_a0_640 rfl ?_
    refine pm_e_top (y := 2) (by decide +kernel) ?_
    show pm_E _ _ _ 641 [(3, .int 0), (2, .ref 18), (1, .ref 0), (0, .retAddr 0)] [.int 2, .retAddr 0, .int _, .ref 0] _ _ _ _
    refine pm_e_sld (j := 2) pm_a0_641 (by decide +kernel) ?_
    show pm_E _ _ _ 642 [(3, .int 0), (2, .ref 18), (1, .ref 0), (0, .retAddr 0)] [.int _, .int _, .ref 0] _ _ _ _
    refine pm_e_call (T2 := pm_mm39) pm_a0_642 rfl rfl rfl rfl rfl rfl rfl rfl rfl ?_
    show pm_E _ _ _ 0 [(0, .ref 0), (1, .int _), (2, .int _)] [] _ _ _ _
    refine pm_e_sim pm_a39_0 rfl ?_
    show pm_E _ _ _ 1 [(0, .ref 0), (1, .int _), (2, .int _)] [.ref 0] _ _ _ _
    refine pm_e_sim pm_a39_1 rfl ?_
    show pm_E _ _ _ 2 [(0, .ref 0), (1, .int _), (2, .int _)] [.int _, .ref 0] _ _ _ _
    refine pm_e_call (T2 := pm_mm26) pm_a39_2 rfl rfl rfl rfl rfl rfl rfl rfl rfl ?_
    show pm_E _ _ _ 0 [(0, .ref 0), (1, .int _)] [] _ _ _ _
    refine pm_e_sim pm_a26_0 rfl ?_
    show pm_E _ _ _ 1 [(0, .ref 0), (1, .int _)] [.int _] _ _ _ _
    refine pm_e_iff pm_a26_1 rfl (pm_z_lt_f 0 (by decide +kernel) (by omega)) ?_
    show pm_E _ _ _ 4 [(0, .ref 0), (1, .int _)] [] _ _ _ _
    refine pm_e_sim pm_a26_4 rfl ?_
    show pm_E _ _ _ 5 [(0, .ref 0), (1, .int _)] [.int _] _ _ _ _
    refine pm_e_sim pm_a26_5 rfl ?_
    show pm_E _ _ _ 6 [(0, .ref 0), (1, .int _)] [.ref 0, .int _] _ _ _ _
    refine pm_e_rd pm_a26_6 rfl rfl rfl ?_
    show pm_E _ _ _ 9 [(0, .ref 0), (1, .int _)] [.int 0, .int _] _ _ _ _
    refine pm_e_ict pm_a26_9 rfl (pm_z_ge_t 0 (by decide +kernel) (by omega)) ?_
    show pm_E _ _ _ 30 [(0, .ref 0), (1, .int _)] [] _ _ _ _
    refine pm_e_sim pm_a26_30 rfl ?_
    show pm_E _ _ _ 31 [(0, .ref 0), (1, .int _)] [.null] _ _ _ _
    refine pm_e_ret pm_a26_31 rfl rfl rfl rfl rfl rfl rfl rfl ?_
    show pm_E _ _ _ 5 [(0, .ref 0), (1, .int _), (2, .int _)] [.null] _ _ _ _
    refine pm_e_sim pm_a39_5 rfl ?_
    show pm_E _ _ _ 6 [(3, .null), (0, .ref 0), (1, .int _), (2, .int _)] [] _ _ _ _
    refine pm_e_sim pm_a39_6 rfl ?_
    show pm_E _ _ _ 7 [(3, .null), (0, .ref 0), (1, .int _), (2, .int _)] [.null] _ _ _ _
    refine pm_e_jmp (pc2 := 17) pm_a39_7 rfl rfl ?_
    show pm_E _ _ _ 17 [(3, .null), (0, .ref 0), (1, .int _), (2, .int _)] [] _ _ _ _
    refine pm_e_sim pm_a39_17 rfl ?_
    refine pm_e_top (y := (-1)) (by decide +kernel) ?_
    show pm_E _ _ _ 18 [(3, .null), (0, .ref 0), (1, .int _), (2, .int _)] [.int (-1)] _ _ _ _
    refine pm_e_ret pm_a39_18 rfl rfl rfl rfl rfl rfl rfl rfl ?_
    show pm_E _ _ _ 645 [(3, .int 0), (2, .ref 18), (1, .ref 0), (0, .retAddr 0)] [.int (-1)] _ _ _ _
    refine pm_e_sim pm_a0_645 rfl ?_
    show pm_E _ _ _ 646 [(3, .int 0), (2, .ref 18), (1, .ref 0), (0, .retAddr 0)] [.ref 18, .int (-1)] _ _ _ _
    refine pm_e_sim pm_a0_646 rfl ?_
    show pm_E _ _ _ 647 [(3, .int 0), (2, .ref 18), (1, .ref 0), (0, .retAddr 0)] [.retAddr 0, .ref 18, .int (-1)] _ _ _ _
    refine pm_e_sim pm_a0_647 rfl ?_
    show pm_E _ _ _ 648 [(3, .int 0), (2, .ref 18), (1, .ref 0), (0, .retAddr 0)] [.int 0, .retAddr 0, .ref 18, .int (-1)] _ _ _ _
    refine pm_e_sim pm_a0_648 rfl ?_
    refine pm_e_top (y := 1) (by decide +kernel) ?_
    show pm_E _ _ _ 649 [(3, .int 0), (2, .ref 18), (1, .ref 0), (0, .retAddr 0)] [.int 1, .int 0, .retAddr 0, .ref 18, .int (-1)] _ _ _ _
    refine pm_e_sim pm_a0_649 rfl ?_
    refine pm_e_top (y := 1) (by decide +kernel) ?_
    show pm_E _ _ _ 650 [(3, .int 0), (2, .ref 18), (1, .ref 0), (0, .retAddr 0)] [.int 1, .retAddr 0, .ref 18, .int (-1)] _ _ _ _
    refine pm_e_sld (j := 1) pm_a0_650 (by decide +kernel) ?_
    show pm_E _ _ _ 651 [(3, .int 0), (2, .ref 18), (1, .ref 0), (0, .retAddr 0)] [.int _, .ref 18, .int (-1)] _ _ _ _
    refine pm_e_sim pm_a0_651 rfl ?_
    show pm_E _ _ _ 652 [(3, .int 0), (2, .ref 18), (1, .ref 0), (0, .retAddr 0)] [.retAddr 0, .int _, .ref 18, .int (-1)] _ _ _ _
    refine pm_e_sim pm_a0_652 rfl ?_
    show pm_E _ _ _ 653 [(3, .int 0), (2, .ref 18), (1, .ref 0), (0, .retAddr 0)] [.int 0, .retAddr 0, .int _, .ref 18, .int (-1)] _ _ _ _
    refine pm_e_sim pm_a0_653 rfl ?_
    refine pm_e_top (y := 2) (by decide +kernel) ?_
    show pm_E _ _ _ 654 [(3, .int 0), (2, .ref 18), (1, .ref 0), (0, .retAddr 0)] [.int 2, .int 0, .retAddr 0, .int _, .ref 18, .int (-1)] _ _ _ _
    refine pm_e_sim pm_a0_654 rfl ?_
    refine pm_e_top (y := 2) (by decide +kernel) ?_
    show pm_E _ _ _ 655 [(3, .int 0), (2, .ref 18), (1, .ref 0), (0, .retAddr 0)] [.int 2, .retAddr 0, .int _, .ref 18, .int (-1)] _ _ _ _
    refine pm_e_sld (j := 2) pm_a0_655 (by decide +kernel) ?_
    show pm_E _ _ _ 656 [(3, .int 0), (2, .ref 18), (1, .ref 0), (0, .retAddr 0)] [.int _, .int _, .ref 18, .int (-1)] _ _ _ _
    refine pm_e_call (T2 := pm_mm74) pm_a0_656 rfl rfl rfl rfl rfl rfl rfl rfl rfl ?_
    show pm_E _ _ _ 0 [(0, .ref 18), (1, .int _), (2, .int _)] [] _ _ _ _
    refine pm_e_sim pm_a74_0 rfl ?_
    show pm_E _ _ _ 1 [(0, .ref 18), (1, .int _), (2, .int _)] [.ref 18] _ _ _ _
    refine pm_e_sim pm_a74_1 rfl ?_
    show pm_E _ _ _ 2 [(0, .ref 18), (1, .int _), (2, .int _)] [.int _, .ref 18] _ _ _ _
    refine pm_e_call (T2 := pm_mm61) pm_a74_2 rfl rfl rfl rfl rfl rfl rfl rfl rfl ?_
    show pm_E _ _ _ 0 [(0, .ref 18), (1, .int _)] [] _ _ _ _
    refine pm_e_sim pm_a61_0 rfl ?_
    show pm_E _ _ _ 1 [(0, .ref 18), (1, .int _)] [.int _] _ _ _ _
    refine pm_e_sim pm_a61_1 rfl ?_
    show pm_E _ _ _ 2 [(0, .ref 18), (1, .int _)] [.long _] _ _ _ _
    refine pm_e_sim pm_a61_2 rfl ?_
    show pm_E _ _ _ 3 [(0, .ref 18), (1, .int _)] [.long _, .long _] _ _ _ _
    refine pm_e_sim pm_a61_3 rfl ?_
    show pm_E _ _ _ 4 [(0, .ref 18), (1, .int _)] [.ref 18, .long _, .long _] _ _ _ _
    refine pm_e_rd pm_a61_4 rfl rfl rfl ?_
    show pm_E _ _ _ 7 [(0, .ref 18), (1, .int _)] [.int 0, .long _, .long _] _ _ _ _
    refine pm_e_sim pm_a61_7 rfl ?_
    refine pm_e_top (y := 1) (by decide +kernel) ?_
    show pm_E _ _ _ 8 [(0, .ref 18), (1, .int _)] [.int 1, .int 0, .long _, .long _] _ _ _ _
    refine pm_e_sim pm_a61_8 rfl ?_
    refine pm_e_top (y := (-1)) (by decide +kernel) ?_
    show pm_E _ _ _ 9 [(0, .ref 18), (1, .int _)] [.int (-1), .long _, .long _] _ _ _ _
    refine pm_e_sim pm_a61_9 rfl ?_
    show pm_E _ _ _ 10 [(0, .ref 18), (1, .int _)] [.long _, .long _, .long _] _ _ _ _
    refine pm_e_call (T2 := pm_mm50) pm_a61_10 rfl rfl rfl rfl rfl rfl rfl rfl rfl ?_
    show pm_E _ _ _ 0 [(0, .long _), (2, .long _), (4, .long _)] [] _ _ _ _
    refine pm_e_sim pm_a50_0 rfl ?_
    show pm_E _ _ _ 1 [(0, .long _), (2, .long _), (4, .long _)] [.long _] _ _ _ _
    refine pm_e_sim pm_a50_1 rfl ?_
    show pm_E _ _ _ 2 [(0, .long _), (2, .long _), (4, .long _)] [.long _, .long _] _ _ _ _
    refine pm_e_sim pm_a50_2 rfl ?_
    show pm_E _ _ _ 3 [(0, .long _), (2, .long _), (4, .long _)] [.int _] _ _ _ _
    refine pm_e_iff pm_a50_3 rfl (pm_zl_gt 0 (by decide +kernel) (by omega) (by decide +kernel)) ?_
    show pm_E _ _ _ 6 [(0, .long _), (2, .long _), (4, .long _)] [] _ _ _ _
    refine pm_e_sim pm_a50_6 rfl ?_
    show pm_E _ _ _ 7 [(0, .long _), (2, .long _), (4, .long _)] [.long _] _ _ _ _
    refine pm_e_sim pm_a50_7 rfl ?_
    show pm_E _ _ _ 9 [(0, .long _), (2, .long _), (4, .long _)] [.long _, .long _] _ _ _ _
    refine pm_e_sim pm_a50_9 rfl ?_
    show pm_E _ _ _ 10 [(0, .long _), (2, .long _), (4, .long _)] [.int _] _ _ _ _
    refine pm_e_ift pm_a50_10 rfl (pm_zl_gt (-1) (by decide +kernel) (by omega) (by decide +kernel)) ?_
    show pm_E _ _ _ 17 [(0, .long _), (2, .long _), (4, .long _)] [] _ _ _ _
    refine pm_e_sim pm_a50_17 rfl ?_
    refine pm_e_top (y := 0) (by decide +kernel) ?_
    show pm_E _ _ _ 18 [(0, .long _), (2, .long _), (4, .long _)] [.int 0] _ _ _ _
    refine pm_e_ret pm_a50_18 rfl rfl rfl rfl rfl rfl rfl rfl ?_
    show pm_E _ _ _ 13 [(0, .ref 18), (1, .int _)] [.int 0] _ _ _ _
    refine pm_e_ret pm_a61_13 rfl rfl rfl rfl rfl rfl rfl rfl ?_
    show pm_E _ _ _ 5 [(0, .ref 18), (1, .int _), (2, .int _)] [.int 0] _ _ _ _
    refine pm_e_ift pm_a74_5 rfl (by decide +kernel) ?_
    show pm_E _ _ _ 20 [(0, .ref 18), (1, .int _), (2, .int _)] [] _ _ _ _
    refine pm_e_sim pm_a74_20 rfl ?_
    refine pm_e_top (y := (-1)) (by decide +kernel) ?_
    show pm_E _ _ _ 21 [(0, .ref 18), (1, .int _), (2, .int _)] [.int (-1)] _ _ _ _
    refine pm_e_ret pm_a74_21 rfl rfl rfl rfl rfl rfl rfl rfl ?_
    show pm_E _ _ _ 659 [(3, .int 0), (2, .ref 18), (1, .ref 0), (0, .retAddr 0)] [.int (-1), .int (-1)] _ _ _ _
    refine pm_e_ict pm_a0_659 rfl (by decide +kernel) ?_
    show pm_E _ _ _ 779 [(3, .int 0), (2, .ref 18), (1, .ref 0), (0, .retAddr 0)] [] _ _ _ _
    refine pm_e_inc (y := 6) pm_a0_779 rfl (by decide +kernel) (by decide +kernel) rfl ?_
    show pm_E _ _ _ 782 [(3, .int 6), (2, .ref 18), (1, .ref 0), (0, .retAddr 0)] [] _ _ _ _
    refine pm_e_goto pm_a0_782 rfl ?_
    show pm_E _ _ _ 18 [(3, .int 6), (2, .ref 18), (1, .ref 0), (0, .retAddr 0)] [] _ _ _ _
    refine pm_e_sim pm_a0_18 rfl ?_
    show pm_E _ _ _ 19 [(3, .int 6), (2, .ref 18), (1, .ref 0), (0, .retAddr 0)] [.int 6] _ _ _ _
    refine pm_e_sim pm_a0_19 rfl ?_
    show pm_E _ _ _ 20 [(3, .int 6), (2, .ref 18), (1, .ref 0), (0, .retAddr 0)] [.retAddr 0, .int 6] _ _ _ _
    refine pm_e_rd pm_a0_20 rfl rfl rfl ?_
    dsimp only
    refine pm_e_top (y := 6) (by decide +kernel) ?_
    show pm_E _ _ _ 21 [(3, .int 6), (2, .ref 18), (1, .ref 0), (0, .retAddr 0)] [.int 6, .int 6] _ _ _ _
    refine pm_e_sim pm_a0_21 rfl ?_
    refine pm_e_top (y := 6) (by decide +kernel) ?_
    show pm_E _ _ _ 23 [(3, .int 6), (2, .ref 18), (1, .ref 0), (0, .retAddr 0)] [.int 6, .int 6, .int 6] _ _ _ _
    refine pm_e_sim pm_a0_23 rfl ?_
    refine pm_e_top (y := 0) (by decide +kernel) ?_
    show pm_E _ _ _ 24 [(3, .int 6), (2, .ref 18), (1, .ref 0), (0, .retAddr 0)] [.int 0, .int 6] _ _ _ _
    refine pm_e_ict pm_a0_24 rfl (by decide +kernel) ?_
    show pm_E _ _ _ 785 [(3, .int 6), (2, .ref 18), (1, .ref 0), (0, .retAddr 0)] [] _ _ _ _
    refine pm_e_sim pm_a0_785 rfl ?_
    refine pm_e_top (y := 1) (by decide +kernel) ?_
    show pm_E _ _ _ 786 [(3, .int 6), (2, .ref 18), (1, .ref 0), (0, .retAddr 0)] [.int 1] _ _ _ _
    refine pm_e_ret pm_a0_786 rfl rfl rfl rfl rfl rfl rfl rfl ?_
    exact hQ _ _ _ (by decide +kernel) (by decide +kernel)
set_option maxHeartbeats 40000000 in
set_option maxRecDepth 200000 in
theorem pm_op18 (xs : Nat → Int32) {Q : Option Value → List va_E → Nat → Nat → Prop} (hQ : ∀ ph c n, c ≤ 600000 → n ≤ 7302250 → Q (some (.int 1)) ph c n) : pm_E (some (6, xs)) 11 pm_mm0 33 pm_L0 [.int (nI 18)] pm_H0 50 194358 Q := by
  refine pm_e_top (y := 18) (by decide +kernel) ?_
  rcases (show (xs 1).toInt < 0 ∨ (xs 1).toInt = 0 ∨ 0 < (xs 1).toInt by omega) with h1 | h1 | h1
  · refine pm_e_tsi (t := 664) pm_a0_33 rfl (by decide +kernel) ?_
    show pm_E _ _ _ 664 [(3, .int 0), (2, .ref 18), (1, .ref 0), (0, .retAddr 0)] [] _ _ _ _
    refine pm_e_sim pm_a0_664 rfl ?_
    show pm_E _ _ _ 665 [(3, .int 0), (2, .ref 18), (1, .ref 0), (0, .retAddr 0)] [.ref 0] _ _ _ _
    refine pm_e_sim pm_a0_665 rfl ?_
    show pm_E _ _ _ 666 [(3, .int 0), (2, .ref 18), (1, .ref 0), (0, .retAddr 0)] [.retAddr 0, .ref 0] _ _ _ _
    refine pm_e_sim pm_a0_666 rfl ?_
    show pm_E _ _ _ 667 [(3, .int 0), (2, .ref 18), (1, .ref 0), (0, .retAddr 0)] [.int 0, .retAddr 0, .ref 0] _ _ _ _
    refine pm_e_sim pm_a0_667 rfl ?_
    refine pm_e_top (y := 1) (by decide +kernel) ?_
    show pm_E _ _ _ 668 [(3, .int 0), (2, .ref 18), (1, .ref 0), (0, .retAddr 0)] [.int 1, .int 0, .retAddr 0, .ref 0] _ _ _ _
    refine pm_e_sim pm_a0_668 rfl ?_
    refine pm_e_top (y := 1) (by decide +kernel) ?_
    show pm_E _ _ _ 669 [(3, .int 0), (2, .ref 18), (1, .ref 0), (0, .retAddr 0)] [.int 1, .retAddr 0, .ref 0] _ _ _ _
    refine pm_e_sld (j := 1) pm_a0_669 (by decide +kernel) ?_
    show pm_E _ _ _ 670 [(3, .int 0), (2, .ref 18), (1, .ref 0), (0, .retAddr 0)] [.int _, .ref 0] _ _ _ _
    refine pm_e_call (T2 := pm_mm40) pm_a0_670 rfl rfl rfl rfl rfl rfl rfl rfl rfl ?_
    show pm_E _ _ _ 0 [(0, .ref 0), (1, .int _)] [] _ _ _ _
    refine pm_e_sim pm_a40_0 rfl ?_
    show pm_E _ _ _ 1 [(0, .ref 0), (1, .int _)] [.ref 0] _ _ _ _
    refine pm_e_sim pm_a40_1 rfl ?_
    show pm_E _ _ _ 2 [(0, .ref 0), (1, .int _)] [.int _, .ref 0] _ _ _ _
    refine pm_e_call (T2 := pm_mm26) pm_a40_2 rfl rfl rfl rfl rfl rfl rfl rfl rfl ?_
    show pm_E _ _ _ 0 [(0, .ref 0), (1, .int _)] [] _ _ _ _
    refine pm_e_sim pm_a26_0 rfl ?_
    show pm_E _ _ _ 1 [(0, .ref 0), (1, .int _)] [.int _] _ _ _ _
    refine pm_e_ift pm_a26_1 rfl (pm_z_lt_t 0 (by decide +kernel) (by omega)) ?_
    show pm_E _ _ _ 30 [(0, .ref 0), (1, .int _)] [] _ _ _ _
    refine pm_e_sim pm_a26_30 rfl ?_
    show pm_E _ _ _ 31 [(0, .ref 0), (1, .int _)] [.null] _ _ _ _
    refine pm_e_ret pm_a26_31 rfl rfl rfl rfl rfl rfl rfl rfl ?_
    show pm_E _ _ _ 5 [(0, .ref 0), (1, .int _)] [.null] _ _ _ _
    refine pm_e_sim pm_a40_5 rfl ?_
    show pm_E _ _ _ 6 [(2, .null), (0, .ref 0), (1, .int _)] [] _ _ _ _
    refine pm_e_sim pm_a40_6 rfl ?_
    show pm_E _ _ _ 7 [(2, .null), (0, .ref 0), (1, .int _)] [.null] _ _ _ _
    refine pm_e_jmp (pc2 := 10) pm_a40_7 rfl rfl ?_
    show pm_E _ _ _ 10 [(2, .null), (0, .ref 0), (1, .int _)] [] _ _ _ _
    refine pm_e_sim pm_a40_10 rfl ?_
    refine pm_e_top (y := (-1)) (by decide +kernel) ?_
    show pm_E _ _ _ 11 [(2, .null), (0, .ref 0), (1, .int _)] [.int (-1)] _ _ _ _
    refine pm_e_ret pm_a40_11 rfl rfl rfl rfl rfl rfl rfl rfl ?_
    show pm_E _ _ _ 673 [(3, .int 0), (2, .ref 18), (1, .ref 0), (0, .retAddr 0)] [.int (-1)] _ _ _ _
    refine pm_e_sim pm_a0_673 rfl ?_
    show pm_E _ _ _ 674 [(3, .int 0), (2, .ref 18), (1, .ref 0), (0, .retAddr 0)] [.ref 18, .int (-1)] _ _ _ _
    refine pm_e_sim pm_a0_674 rfl ?_
    show pm_E _ _ _ 675 [(3, .int 0), (2, .ref 18), (1, .ref 0), (0, .retAddr 0)] [.retAddr 0, .ref 18, .int (-1)] _ _ _ _
    refine pm_e_sim pm_a0_675 rfl ?_
    show pm_E _ _ _ 676 [(3, .int 0), (2, .ref 18), (1, .ref 0), (0, .retAddr 0)] [.int 0, .retAddr 0, .ref 18, .int (-1)] _ _ _ _
    refine pm_e_sim pm_a0_676 rfl ?_
    refine pm_e_top (y := 1) (by decide +kernel) ?_
    show pm_E _ _ _ 677 [(3, .int 0), (2, .ref 18), (1, .ref 0), (0, .retAddr 0)] [.int 1, .int 0, .retAddr 0, .ref 18, .int (-1)] _ _ _ _
    refine pm_e_sim pm_a0_677 rfl ?_
    refine pm_e_top (y := 1) (by decide +kernel) ?_
    show pm_E _ _ _ 678 [(3, .int 0), (2, .ref 18), (1, .ref 0), (0, .retAddr 0)] [.int 1, .retAddr 0, .ref 18, .int (-1)] _ _ _ _
    refine pm_e_sld (j := 1) pm_a0_678 (by decide +kernel) ?_
    show pm_E _ _ _ 679 [(3, .int 0), (2, .ref 18), (1, .ref 0), (0, .retAddr 0)] [.int _, .ref 18, .int (-1)] _ _ _ _
    refine pm_e_call (T2 := pm_mm75) pm_a0_679 rfl rfl rfl rfl rfl rfl rfl rfl rfl ?_
    show pm_E _ _ _ 0 [(0, .ref 18), (1, .int _)] [] _ _ _ _
    refine pm_e_sim pm_a75_0 rfl ?_
    show pm_E _ _ _ 1 [(0, .ref 18), (1, .int _)] [.ref 18] _ _ _ _
    refine pm_e_sim pm_a75_1 rfl ?_
    show pm_E _ _ _ 2 [(0, .ref 18), (1, .int _)] [.int _, .ref 18] _ _ _ _
    refine pm_e_call (T2 := pm_mm61) pm_a75_2 rfl rfl rfl rfl rfl rfl rfl rfl rfl ?_
    show pm_E _ _ _ 0 [(0, .ref 18), (1, .int _)] [] _ _ _ _
    refine pm_e_sim pm_a61_0 rfl ?_
    show pm_E _ _ _ 1 [(0, .ref 18), (1, .int _)] [.int _] _ _ _ _
    refine pm_e_sim pm_a61_1 rfl ?_
    show pm_E _ _ _ 2 [(0, .ref 18), (1, .int _)] [.long _] _ _ _ _
    refine pm_e_sim pm_a61_2 rfl ?_
    show pm_E _ _ _ 3 [(0, .ref 18), (1, .int _)] [.long _, .long _] _ _ _ _
    refine pm_e_sim pm_a61_3 rfl ?_
    show pm_E _ _ _ 4 [(0, .ref 18), (1, .int _)] [.ref 18, .long _, .long _] _ _ _ _
    refine pm_e_rd pm_a61_4 rfl rfl rfl ?_
    show pm_E _ _ _ 7 [(0, .ref 18), (1, .int _)] [.int 0, .long _, .long _] _ _ _ _
    refine pm_e_sim pm_a61_7 rfl ?_
    refine pm_e_top (y := 1) (by decide +kernel) ?_
    show pm_E _ _ _ 8 [(0, .ref 18), (1, .int _)] [.int 1, .int 0, .long _, .long _] _ _ _ _
    refine pm_e_sim pm_a61_8 rfl ?_
    refine pm_e_top (y := (-1)) (by decide +kernel) ?_
    show pm_E _ _ _ 9 [(0, .ref 18), (1, .int _)] [.int (-1), .long _, .long _] _ _ _ _
    refine pm_e_sim pm_a61_9 rfl ?_
    show pm_E _ _ _ 10 [(0, .ref 18), (1, .int _)] [.long _, .long _, .long _] _ _ _ _
    refine pm_e_call (T2 := pm_mm50) pm_a61_10 rfl rfl rfl rfl rfl rfl rfl rfl rfl ?_
    show pm_E _ _ _ 0 [(0, .long _), (2, .long _), (4, .long _)] [] _ _ _ _
    refine pm_e_sim pm_a50_0 rfl ?_
    show pm_E _ _ _ 1 [(0, .long _), (2, .long _), (4, .long _)] [.long _] _ _ _ _
    refine pm_e_sim pm_a50_1 rfl ?_
    show pm_E _ _ _ 2 [(0, .long _), (2, .long _), (4, .long _)] [.long _, .long _] _ _ _ _
    refine pm_e_sim pm_a50_2 rfl ?_
    show pm_E _ _ _ 3 [(0, .long _), (2, .long _), (4, .long _)] [.int _] _ _ _ _
    refine pm_e_ift pm_a50_3 rfl (pm_zl_lt 0 (by decide +kernel) (by omega) (by decide +kernel)) ?_
    show pm_E _ _ _ 17 [(0, .long _), (2, .long _), (4, .long _)] [] _ _ _ _
    refine pm_e_sim pm_a50_17 rfl ?_
    refine pm_e_top (y := 0) (by decide +kernel) ?_
    show pm_E _ _ _ 18 [(0, .long _), (2, .long _), (4, .long _)] [.int 0] _ _ _ _
    refine pm_e_ret pm_a50_18 rfl rfl rfl rfl rfl rfl rfl rfl ?_
    show pm_E _ _ _ 13 [(0, .ref 18), (1, .int _)] [.int 0] _ _ _ _
    refine pm_e_ret pm_a61_13 rfl rfl rfl rfl rfl rfl rfl rfl ?_
    show pm_E _ _ _ 5 [(0, .ref 18), (1, .int _)] [.int 0] _ _ _ _
    refine pm_e_iff pm_a75_5 rfl (by decide +kernel) ?_
    show pm_E _ _ _ 8 [(0, .ref 18), (1, .int _)] [] _ _ _ _
    refine pm_e_sim pm_a75_8 rfl ?_
    refine pm_e_top (y := (-1)) (by decide +kernel) ?_
    show pm_E _ _ _ 9 [(0, .ref 18), (1, .int _)] [.int (-1)] _ _ _ _
    refine pm_e_ret pm_a75_9 rfl rfl rfl rfl rfl rfl rfl rfl ?_
    show pm_E _ _ _ 682 [(3, .int 0), (2, .ref 18), (1, .ref 0), (0, .retAddr 0)] [.int (-1), .int (-1)] _ _ _ _
    refine pm_e_ict pm_a0_682 rfl (by decide +kernel) ?_
    show pm_E _ _ _ 779 [(3, .int 0), (2, .ref 18), (1, .ref 0), (0, .retAddr 0)] [] _ _ _ _
    refine pm_e_inc (y := 6) pm_a0_779 rfl (by decide +kernel) (by decide +kernel) rfl ?_
    show pm_E _ _ _ 782 [(3, .int 6), (2, .ref 18), (1, .ref 0), (0, .retAddr 0)] [] _ _ _ _
    refine pm_e_goto pm_a0_782 rfl ?_
    show pm_E _ _ _ 18 [(3, .int 6), (2, .ref 18), (1, .ref 0), (0, .retAddr 0)] [] _ _ _ _
    refine pm_e_sim pm_a0_18 rfl ?_
    show pm_E _ _ _ 19 [(3, .int 6), (2, .ref 18), (1, .ref 0), (0, .retAddr 0)] [.int 6] _ _ _ _
    refine pm_e_sim pm_a0_19 rfl ?_
    show pm_E _ _ _ 20 [(3, .int 6), (2, .ref 18), (1, .ref 0), (0, .retAddr 0)] [.retAddr 0, .int 6] _ _ _ _
    refine pm_e_rd pm_a0_20 rfl rfl rfl ?_
    dsimp only
    refine pm_e_top (y := 6) (by decide +kernel) ?_
    show pm_E _ _ _ 21 [(3, .int 6), (2, .ref 18), (1, .ref 0), (0, .retAddr 0)] [.int 6, .int 6] _ _ _ _
    refine pm_e_sim pm_a0_21 rfl ?_
    refine pm_e_top (y := 6) (by decide +kernel) ?_
    show pm_E _ _ _ 23 [(3, .int 6), (2, .ref 18), (1, .ref 0), (0, .retAddr 0)] [.int 6, .int 6, .int 6] _ _ _ _
    refine pm_e_sim pm_a0_23 rfl ?_
    refine pm_e_top (y := 0) (by decide +kernel) ?_
    show pm_E _ _ _ 24 [(3, .int 6), (2, .ref 18), (1, .ref 0), (0, .retAddr 0)] [.int 0, .int 6] _ _ _ _
    refine pm_e_ict pm_a0_24 rfl (by decide +kernel) ?_
    show pm_E _ _ _ 785 [(3, .int 6), (2, .ref 18), (1, .ref 0), (0, .retAddr 0)] [] _ _ _ _
    refine pm_e_sim pm_a0_785 rfl ?_
    refine pm_e_top (y := 1) (by decide +kernel) ?_
    show pm_E _ _ _ 786 [(3, .int 6), (2, .ref 18), (1, .ref 0), (0, .retAddr 0)] [.int 1] _ _ _ _
    refine pm_e_ret pm_a0_786 rfl rfl rfl rfl rfl rfl rfl rfl ?_
    exact hQ _ _ _ (by decide +kernel) (by decide +kernel)
  · refine pm_e_tsi (t := 664) pm_a0_33 rfl (by decide +kernel) ?_
    show pm_E _ _ _ 664 [(3, .int 0), (2, .ref 18), (1, .ref 0), (0, .retAddr 0)] [] _ _ _ _
    refine pm_e_sim pm_a0_664 rfl ?_
    show pm_E _ _ _ 665 [(3, .int 0), (2, .ref 18), (1, .ref 0), (0, .retAddr 0)] [.ref 0] _ _ _ _
    refine pm_e_sim pm_a0_665 rfl ?_
    show pm_E _ _ _ 666 [(3, .int 0), (2, .ref 18), (1, .ref 0), (0, .retAddr 0)] [.retAddr 0, .ref 0] _ _ _ _
    refine pm_e_sim pm_a0_666 rfl ?_
    show pm_E _ _ _ 667 [(3, .int 0), (2, .ref 18), (1, .ref 0), (0, .retAddr 0)] [.int 0, .retAddr 0, .ref 0] _ _ _ _
    refine pm_e_sim pm_a0_667 rfl ?_
    refine pm_e_top (y := 1) (by decide +kernel) ?_
    show pm_E _ _ _ 668 [(3, .int 0), (2, .ref 18), (1, .ref 0), (0, .retAddr 0)] [.int 1, .int 0, .retAddr 0, .ref 0] _ _ _ _
    refine pm_e_sim pm_a0_668 rfl ?_
    refine pm_e_top (y := 1) (by decide +kernel) ?_
    show pm_E _ _ _ 669 [(3, .int 0), (2, .ref 18), (1, .ref 0), (0, .retAddr 0)] [.int 1, .retAddr 0, .ref 0] _ _ _ _
    refine pm_e_sld (j := 1) pm_a0_669 (by decide +kernel) ?_
    show pm_E _ _ _ 670 [(3, .int 0), (2, .ref 18), (1, .ref 0), (0, .retAddr 0)] [.int _, .ref 0] _ _ _ _
    refine pm_e_call (T2 := pm_mm40) pm_a0_670 rfl rfl rfl rfl rfl rfl rfl rfl rfl ?_
    show pm_E _ _ _ 0 [(0, .ref 0), (1, .int _)] [] _ _ _ _
    refine pm_e_sim pm_a40_0 rfl ?_
    show pm_E _ _ _ 1 [(0, .ref 0), (1, .int _)] [.ref 0] _ _ _ _
    refine pm_e_sim pm_a40_1 rfl ?_
    show pm_E _ _ _ 2 [(0, .ref 0), (1, .int _)] [.int _, .ref 0] _ _ _ _
    refine pm_e_call (T2 := pm_mm26) pm_a40_2 rfl rfl rfl rfl rfl rfl rfl rfl rfl ?_
    show pm_E _ _ _ 0 [(0, .ref 0), (1, .int _)] [] _ _ _ _
    refine pm_e_sim pm_a26_0 rfl ?_
    show pm_E _ _ _ 1 [(0, .ref 0), (1, .int _)] [.int _] _ _ _ _
    refine pm_e_iff pm_a26_1 rfl (pm_z_lt_f 0 (by decide +kernel) (by omega)) ?_
    show pm_E _ _ _ 4 [(0, .ref 0), (1, .int _)] [] _ _ _ _
    refine pm_e_sim pm_a26_4 rfl ?_
    show pm_E _ _ _ 5 [(0, .ref 0), (1, .int _)] [.int _] _ _ _ _
    refine pm_e_sim pm_a26_5 rfl ?_
    show pm_E _ _ _ 6 [(0, .ref 0), (1, .int _)] [.ref 0, .int _] _ _ _ _
    refine pm_e_rd pm_a26_6 rfl rfl rfl ?_
    show pm_E _ _ _ 9 [(0, .ref 0), (1, .int _)] [.int 0, .int _] _ _ _ _
    refine pm_e_ict pm_a26_9 rfl (pm_z_ge_t 0 (by decide +kernel) (by omega)) ?_
    show pm_E _ _ _ 30 [(0, .ref 0), (1, .int _)] [] _ _ _ _
    refine pm_e_sim pm_a26_30 rfl ?_
    show pm_E _ _ _ 31 [(0, .ref 0), (1, .int _)] [.null] _ _ _ _
    refine pm_e_ret pm_a26_31 rfl rfl rfl rfl rfl rfl rfl rfl ?_
    show pm_E _ _ _ 5 [(0, .ref 0), (1, .int _)] [.null] _ _ _ _
    refine pm_e_sim pm_a40_5 rfl ?_
    show pm_E _ _ _ 6 [(2, .null), (0, .ref 0), (1, .int _)] [] _ _ _ _
    refine pm_e_sim pm_a40_6 rfl ?_
    show pm_E _ _ _ 7 [(2, .null), (0, .ref 0), (1, .int _)] [.null] _ _ _ _
    refine pm_e_jmp (pc2 := 10) pm_a40_7 rfl rfl ?_
    show pm_E _ _ _ 10 [(2, .null), (0, .ref 0), (1, .int _)] [] _ _ _ _
    refine pm_e_sim pm_a40_10 rfl ?_
    refine pm_e_top (y := (-1)) (by decide +kernel) ?_
    show pm_E _ _ _ 11 [(2, .null), (0, .ref 0), (1, .int _)] [.int (-1)] _ _ _ _
    refine pm_e_ret pm_a40_11 rfl rfl rfl rfl rfl rfl rfl rfl ?_
    show pm_E _ _ _ 673 [(3, .int 0), (2, .ref 18), (1, .ref 0), (0, .retAddr 0)] [.int (-1)] _ _ _ _
    refine pm_e_sim pm_a0_673 rfl ?_
    show pm_E _ _ _ 674 [(3, .int 0), (2, .ref 18), (1, .ref 0), (0, .retAddr 0)] [.ref 18, .int (-1)] _ _ _ _
    refine pm_e_sim pm_a0_674 rfl ?_
    show pm_E _ _ _ 675 [(3, .int 0), (2, .ref 18), (1, .ref 0), (0, .retAddr 0)] [.retAddr 0, .ref 18, .int (-1)] _ _ _ _
    refine pm_e_sim pm_a0_675 rfl ?_
    show pm_E _ _ _ 676 [(3, .int 0), (2, .ref 18), (1, .ref 0), (0, .retAddr 0)] [.int 0, .retAddr 0, .ref 18, .int (-1)] _ _ _ _
    refine pm_e_sim pm_a0_676 rfl ?_
    refine pm_e_top (y := 1) (by decide +kernel) ?_
    show pm_E _ _ _ 677 [(3, .int 0), (2, .ref 18), (1, .ref 0), (0, .retAddr 0)] [.int 1, .int 0, .retAddr 0, .ref 18, .int (-1)] _ _ _ _
    refine pm_e_sim pm_a0_677 rfl ?_
    refine pm_e_top (y := 1) (by decide +kernel) ?_
    show pm_E _ _ _ 678 [(3, .int 0), (2, .ref 18), (1, .ref 0), (0, .retAddr 0)] [.int 1, .retAddr 0, .ref 18, .int (-1)] _ _ _ _
    refine pm_e_sld (j := 1) pm_a0_678 (by decide +kernel) ?_
    show pm_E _ _ _ 679 [(3, .int 0), (2, .ref 18), (1, .ref 0), (0, .retAddr 0)] [.int _, .ref 18, .int (-1)] _ _ _ _
    refine pm_e_call (T2 := pm_mm75) pm_a0_679 rfl rfl rfl rfl rfl rfl rfl rfl rfl ?_
    show pm_E _ _ _ 0 [(0, .ref 18), (1, .int _)] [] _ _ _ _
    refine pm_e_sim pm_a75_0 rfl ?_
    show pm_E _ _ _ 1 [(0, .ref 18), (1, .int _)] [.ref 18] _ _ _ _
    refine pm_e_sim pm_a75_1 rfl ?_
    show pm_E _ _ _ 2 [(0, .ref 18), (1, .int _)] [.int _, .ref 18] _ _ _ _
    refine pm_e_call (T2 := pm_mm61) pm_a75_2 rfl rfl rfl rfl rfl rfl rfl rfl rfl ?_
    show pm_E _ _ _ 0 [(0, .ref 18), (1, .int _)] [] _ _ _ _
    refine pm_e_sim pm_a61_0 rfl ?_
    show pm_E _ _ _ 1 [(0, .ref 18), (1, .int _)] [.int _] _ _ _ _
    refine pm_e_sim pm_a61_1 rfl ?_
    show pm_E _ _ _ 2 [(0, .ref 18), (1, .int _)] [.long _] _ _ _ _
    refine pm_e_sim pm_a61_2 rfl ?_
    show pm_E _ _ _ 3 [(0, .ref 18), (1, .int _)] [.long _, .long _] _ _ _ _
    refine pm_e_sim pm_a61_3 rfl ?_
    show pm_E _ _ _ 4 [(0, .ref 18), (1, .int _)] [.ref 18, .long _, .long _] _ _ _ _
    refine pm_e_rd pm_a61_4 rfl rfl rfl ?_
    show pm_E _ _ _ 7 [(0, .ref 18), (1, .int _)] [.int 0, .long _, .long _] _ _ _ _
    refine pm_e_sim pm_a61_7 rfl ?_
    refine pm_e_top (y := 1) (by decide +kernel) ?_
    show pm_E _ _ _ 8 [(0, .ref 18), (1, .int _)] [.int 1, .int 0, .long _, .long _] _ _ _ _
    refine pm_e_sim pm_a61_8 rfl ?_
    refine pm_e_top (y := (-1)) (by decide +kernel) ?_
    show pm_E _ _ _ 9 [(0, .ref 18), (1, .int _)] [.int (-1), .long _, .long _] _ _ _ _
    refine pm_e_sim pm_a61_9 rfl ?_
    show pm_E _ _ _ 10 [(0, .ref 18), (1, .int _)] [.long _, .long _, .long _] _ _ _ _
    refine pm_e_call (T2 := pm_mm50) pm_a61_10 rfl rfl rfl rfl rfl rfl rfl rfl rfl ?_
    show pm_E _ _ _ 0 [(0, .long _), (2, .long _), (4, .long _)] [] _ _ _ _
    refine pm_e_sim pm_a50_0 rfl ?_
    show pm_E _ _ _ 1 [(0, .long _), (2, .long _), (4, .long _)] [.long _] _ _ _ _
    refine pm_e_sim pm_a50_1 rfl ?_
    show pm_E _ _ _ 2 [(0, .long _), (2, .long _), (4, .long _)] [.long _, .long _] _ _ _ _
    refine pm_e_sim pm_a50_2 rfl ?_
    show pm_E _ _ _ 3 [(0, .long _), (2, .long _), (4, .long _)] [.int _] _ _ _ _
    refine pm_e_iff pm_a50_3 rfl (pm_zl_eq 0 (by decide +kernel) (by omega) (by decide +kernel)) ?_
    show pm_E _ _ _ 6 [(0, .long _), (2, .long _), (4, .long _)] [] _ _ _ _
    refine pm_e_sim pm_a50_6 rfl ?_
    show pm_E _ _ _ 7 [(0, .long _), (2, .long _), (4, .long _)] [.long _] _ _ _ _
    refine pm_e_sim pm_a50_7 rfl ?_
    show pm_E _ _ _ 9 [(0, .long _), (2, .long _), (4, .long _)] [.long _, .long _] _ _ _ _
    refine pm_e_sim pm_a50_9 rfl ?_
    show pm_E _ _ _ 10 [(0, .long _), (2, .long _), (4, .long _)] [.int _] _ _ _ _
    refine pm_e_ift pm_a50_10 rfl (pm_zl_gt (-1) (by decide +kernel) (by omega) (by decide +kernel)) ?_
    show pm_E _ _ _ 17 [(0, .long _), (2, .long _), (4, .long _)] [] _ _ _ _
    refine pm_e_sim pm_a50_17 rfl ?_
    refine pm_e_top (y := 0) (by decide +kernel) ?_
    show pm_E _ _ _ 18 [(0, .long _), (2, .long _), (4, .long _)] [.int 0] _ _ _ _
    refine pm_e_ret pm_a50_18 rfl rfl rfl rfl rfl rfl rfl rfl ?_
    show pm_E _ _ _ 13 [(0, .ref 18), (1, .int _)] [.int 0] _ _ _ _
    refine pm_e_ret pm_a61_13 rfl rfl rfl rfl rfl rfl rfl rfl ?_
    show pm_E _ _ _ 5 [(0, .ref 18), (1, .int _)] [.int 0] _ _ _ _
    refine pm_e_iff pm_a75_5 rfl (by decide +kernel) ?_
    show pm_E _ _ _ 8 [(0, .ref 18), (1, .int _)] [] _ _ _ _
    refine pm_e_sim pm_a75_8 rfl ?_
    refine pm_e_top (y := (-1)) (by decide +kernel) ?_
    show pm_E _ _ _ 9 [(0, .ref 18), (1, .int _)] [.int (-1)] _ _ _ _
    refine pm_e_ret pm_a75_9 rfl rfl rfl rfl rfl rfl rfl rfl ?_
    show pm_E _ _ _ 682 [(3, .int 0), (2, .ref 18), (1, .ref 0), (0, .retAddr 0)] [.int (-1), .int (-1)] _ _ _ _
    refine pm_e_ict pm_a0_682 rfl (by decide +kernel) ?_
    show pm_E _ _ _ 779 [(3, .int 0), (2, .ref 18), (1, .ref 0), (0, .retAddr 0)] [] _ _ _ _
    refine pm_e_inc (y := 6) pm_a0_779 rfl (by decide +kernel) (by decide +kernel) rfl ?_
    show pm_E _ _ _ 782 [(3, .int 6), (2, .ref 18), (1, .ref 0), (0, .retAddr 0)] [] _ _ _ _
    refine pm_e_goto pm_a0_782 rfl ?_
    show pm_E _ _ _ 18 [(3, .int 6), (2, .ref 18), (1, .ref 0), (0, .retAddr 0)] [] _ _ _ _
    refine pm_e_sim pm_a0_18 rfl ?_
    show pm_E _ _ _ 19 [(3, .int 6), (2, .ref 18), (1, .ref 0), (0, .retAddr 0)] [.int 6] _ _ _ _
    refine pm_e_sim pm_a0_19 rfl ?_
    show pm_E _ _ _ 20 [(3, .int 6), (2, .ref 18), (1, .ref 0), (0, .retAddr 0)] [.retAddr 0, .int 6] _ _ _ _
    refine pm_e_rd pm_a0_20 rfl rfl rfl ?_
    dsimp only
    refine pm_e_top (y := 6) (by decide +kernel) ?_
    show pm_E _ _ _ 21 [(3, .int 6), (2, .ref 18), (1, .ref 0), (0, .retAddr 0)] [.int 6, .int 6] _ _ _ _
    refine pm_e_sim pm_a0_21 rfl ?_
    refine pm_e_top (y := 6) (by decide +kernel) ?_
    show pm_E _ _ _ 23 [(3, .int 6), (2, .ref 18), (1, .ref 0), (0, .retAddr 0)] [.int 6, .int 6, .int 6] _ _ _ _
    refine pm_e_sim pm_a0_23 rfl ?_
    refine pm_e_top (y := 0) (by decide +kernel) ?_
    show pm_E _ _ _ 24 [(3, .int 6), (2, .ref 18), (1, .ref 0), (0, .retAddr 0)] [.int 0, .int 6] _ _ _ _
    refine pm_e_ict pm_a0_24 rfl (by decide +kernel) ?_
    show pm_E _ _ _ 785 [(3, .int 6), (2, .ref 18), (1, .ref 0), (0, .retAddr 0)] [] _ _ _ _
    refine pm_e_sim pm_a0_785 rfl ?_
    refine pm_e_top (y := 1) (by decide +kernel) ?_
    show pm_E _ _ _ 786 [(3, .int 6), (2, .ref 18), (1, .ref 0), (0, .retAddr 0)] [.int 1] _ _ _ _
    refine pm_e_ret pm_a0_786 rfl rfl rfl rfl rfl rfl rfl rfl ?_
    exact hQ _ _ _ (by decide +kernel) (by decide +kernel)
  · refine pm_e_tsi (t := 664) pm_a0_33 rfl (by decide +kernel) ?_
    show pm_E _ _ _ 664 [(3, .int 0), (2, .ref 18), (1, .ref 0), (0, .retAddr 0)] [] _ _ _ _
    refine pm_e_sim pm_a0_664 rfl ?_
    show pm_E _ _ _ 665 [(3, .int 0), (2, .ref 18), (1, .ref 0), (0, .retAddr 0)] [.ref 0] _ _ _ _
    refine pm_e_sim pm_a0_665 rfl ?_
    show pm_E _ _ _ 666 [(3, .int 0), (2, .ref 18), (1, .ref 0), (0, .retAddr 0)] [.retAddr 0, .ref 0] _ _ _ _
    refine pm_e_sim pm_a0_666 rfl ?_
    show pm_E _ _ _ 667 [(3, .int 0), (2, .ref 18), (1, .ref 0), (0, .retAddr 0)] [.int 0, .retAddr 0, .ref 0] _ _ _ _
    refine pm_e_sim pm_a0_667 rfl ?_
    refine pm_e_top (y := 1) (by decide +kernel) ?_
    show pm_E _ _ _ 668 [(3, .int 0), (2, .ref 18), (1, .ref 0), (0, .retAddr 0)] [.int 1, .int 0, .retAddr 0, .ref 0] _ _ _ _
    refine pm_e_sim pm_a0_668 rfl ?_
    refine pm_e_top (y := 1) (by decide +kernel) ?_
    show pm_E _ _ _ 669 [(3, .int 0), (2, .ref 18), (1, .ref 0), (0, .retAddr 0)] [.int 1, .retAddr 0, .ref 0] _ _ _ _
    refine pm_e_sld (j := 1) pm_a0_669 (by decide +kernel) ?_
    show pm_E _ _ _ 670 [(3, .int 0), (2, .ref 18), (1, .ref 0), (0, .retAddr 0)] [.int _, .ref 0] _ _ _ _
    refine pm_e_call (T2 := pm_mm40) pm_a0_670 rfl rfl rfl rfl rfl rfl rfl rfl rfl ?_
    show pm_E _ _ _ 0 [(0, .ref 0), (1, .int _)] [] _ _ _ _
    refine pm_e_sim pm_a40_0 rfl ?_
    show pm_E _ _ _ 1 [(0, .ref 0), (1, .int _)] [.ref 0] _ _ _ _
    refine pm_e_sim pm_a40_1 rfl ?_
    show pm_E _ _ _ 2 [(0, .ref 0), (1, .int _)] [.int _, .ref 0] _ _ _ _
    refine pm_e_call (T2 := pm_mm26) pm_a40_2 rfl rfl rfl rfl rfl rfl rfl rfl rfl ?_
    show pm_E _ _ _ 0 [(0, .ref 0), (1, .int _)] [] _ _ _ _
    refine pm_e_sim pm_a26_0 rfl ?_
    show pm_E _ _ _ 1 [(0, .ref 0), (1, .int _)] [.int _] _ _ _ _
    refine pm_e_iff pm_a26_1 rfl (pm_z_lt_f 0 (by decide +kernel) (by omega)) ?_
    show pm_E _ _ _ 4 [(0, .ref 0), (1, .int _)] [] _ _ _ _
    refine pm_e_sim pm_a26_4 rfl ?_
    show pm_E _ _ _ 5 [(0, .ref 0), (1, .int _)] [.int _] _ _ _ _
    refine pm_e_sim pm_a26_5 rfl ?_
    show pm_E _ _ _ 6 [(0, .ref 0), (1, .int _)] [.ref 0, .int _] _ _ _ _
    refine pm_e_rd pm_a26_6 rfl rfl rfl ?_
    show pm_E _ _ _ 9 [(0, .ref 0), (1, .int _)] [.int 0, .int _] _ _ _ _
    refine pm_e_ict pm_a26_9 rfl (pm_z_ge_t 0 (by decide +kernel) (by omega)) ?_
    show pm_E _ _ _ 30 [(0, .ref 0), (1, .int _)] [] _ _ _ _
    refine pm_e_sim pm_a26_30 rfl ?_
    show pm_E _ _ _ 31 [(0, .ref 0), (1, .int _)] [.null] _ _ _ _
    refine pm_e_ret pm_a26_31 rfl rfl rfl rfl rfl rfl rfl rfl ?_
    show pm_E _ _ _ 5 [(0, .ref 0), (1, .int _)] [.null] _ _ _ _
    refine pm_e_sim pm_a40_5 rfl ?_
    show pm_E _ _ _ 6 [(2, .null), (0, .ref 0), (1, .int _)] [] _ _ _ _
    refine pm_e_sim pm_a40_6 rfl ?_
    show pm_E _ _ _ 7 [(2, .null), (0, .ref 0), (1, .int _)] [.null] _ _ _ _
    refine pm_e_jmp (pc2 := 10) pm_a40_7 rfl rfl ?_
    show pm_E _ _ _ 10 [(2, .null), (0, .ref 0), (1, .int _)] [] _ _ _ _
    refine pm_e_sim pm_a40_10 rfl ?_
    refine pm_e_top (y := (-1)) (by decide +kernel) ?_
    show pm_E _ _ _ 11 [(2, .null), (0, .ref 0), (1, .int _)] [.int (-1)] _ _ _ _
    refine pm_e_ret pm_a40_11 rfl rfl rfl rfl rfl rfl rfl rfl ?_
    show pm_E _ _ _ 673 [(3, .int 0), (2, .ref 18), (1, .ref 0), (0, .retAddr 0)] [.int (-1)] _ _ _ _
    refine pm_e_sim pm_a0_673 rfl ?_
    show pm_E _ _ _ 674 [(3, .int 0), (2, .ref 18), (1, .ref 0), (0, .retAddr 0)] [.ref 18, .int (-1)] _ _ _ _
    refine pm_e_sim pm_a0_674 rfl ?_
    show pm_E _ _ _ 675 [(3, .int 0), (2, .ref 18), (1, .ref 0), (0, .retAddr 0)] [.retAddr 0, .ref 18, .int (-1)] _ _ _ _
    refine pm_e_sim pm_a0_675 rfl ?_
    show pm_E _ _ _ 676 [(3, .int 0), (2, .ref 18), (1, .ref 0), (0, .retAddr 0)] [.int 0, .retAddr 0, .ref 18, .int (-1)] _ _ _ _
    refine pm_e_sim pm_a0_676 rfl ?_
    refine pm_e_top (y := 1) (by decide +kernel) ?_
    show pm_E _ _ _ 677 [(3, .int 0), (2, .ref 18), (1, .ref 0), (0, .retAddr 0)] [.int 1, .int 0, .retAddr 0, .ref 18, .int (-1)] _ _ _ _
    refine pm_e_sim pm_a0_677 rfl ?_
    refine pm_e_top (y := 1) (by decide +kernel) ?_
    show pm_E _ _ _ 678 [(3, .int 0), (2, .ref 18), (1, .ref 0), (0, .retAddr 0)] [.int 1, .retAddr 0, .ref 18, .int (-1)] _ _ _ _
    refine pm_e_sld (j := 1) pm_a0_678 (by decide +kernel) ?_
    show pm_E _ _ _ 679 [(3, .int 0), (2, .ref 18), (1, .ref 0), (0, .retAddr 0)] [.int _, .ref 18, .int (-1)] _ _ _ _
    refine pm_e_call (T2 := pm_mm75) pm_a0_679 rfl rfl rfl rfl rfl rfl rfl rfl rfl ?_
    show pm_E _ _ _ 0 [(0, .ref 18), (1, .int _)] [] _ _ _ _
    refine pm_e_sim pm_a75_0 rfl ?_
    show pm_E _ _ _ 1 [(0, .ref 18), (1, .int _)] [.ref 18] _ _ _ _
    refine pm_e_sim pm_a75_1 rfl ?_
    show pm_E _ _ _ 2 [(0, .ref 18), (1, .int _)] [.int _, .ref 18] _ _ _ _
    refine pm_e_call (T2 := pm_mm61) pm_a75_2 rfl rfl rfl rfl rfl rfl rfl rfl rfl ?_
    show pm_E _ _ _ 0 [(0, .ref 18), (1, .int _)] [] _ _ _ _
    refine pm_e_sim pm_a61_0 rfl ?_
    show pm_E _ _ _ 1 [(0, .ref 18), (1, .int _)] [.int _] _ _ _ _
    refine pm_e_sim pm_a61_1 rfl ?_
    show pm_E _ _ _ 2 [(0, .ref 18), (1, .int _)] [.long _] _ _ _ _
    refine pm_e_sim pm_a61_2 rfl ?_
    show pm_E _ _ _ 3 [(0, .ref 18), (1, .int _)] [.long _, .long _] _ _ _ _
    refine pm_e_sim pm_a61_3 rfl ?_
    show pm_E _ _ _ 4 [(0, .ref 18), (1, .int _)] [.ref 18, .long _, .long _] _ _ _ _
    refine pm_e_rd pm_a61_4 rfl rfl rfl ?_
    show pm_E _ _ _ 7 [(0, .ref 18), (1, .int _)] [.int 0, .long _, .long _] _ _ _ _
    refine pm_e_sim pm_a61_7 rfl ?_
    refine pm_e_top (y := 1) (by decide +kernel) ?_
    show pm_E _ _ _ 8 [(0, .ref 18), (1, .int _)] [.int 1, .int 0, .long _, .long _] _ _ _ _
    refine pm_e_sim pm_a61_8 rfl ?_
    refine pm_e_top (y := (-1)) (by decide +kernel) ?_
    show pm_E _ _ _ 9 [(0, .ref 18), (1, .int _)] [.int (-1), .long _, .long _] _ _ _ _
    refine pm_e_sim pm_a61_9 rfl ?_
    show pm_E _ _ _ 10 [(0, .ref 18), (1, .int _)] [.long _, .long _, .long _] _ _ _ _
    refine pm_e_call (T2 := pm_mm50) pm_a61_10 rfl rfl rfl rfl rfl rfl rfl rfl rfl ?_
    show pm_E _ _ _ 0 [(0, .long _), (2, .long _), (4, .long _)] [] _ _ _ _
    refine pm_e_sim pm_a50_0 rfl ?_
    show pm_E _ _ _ 1 [(0, .long _), (2, .long _), (4, .long _)] [.long _] _ _ _ _
    refine pm_e_sim pm_a50_1 rfl ?_
    show pm_E _ _ _ 2 [(0, .long _), (2, .long _), (4, .long _)] [.long _, .long _] _ _ _ _
    refine pm_e_sim pm_a50_2 rfl ?_
    show pm_E _ _ _ 3 [(0, .long _), (2, .long _), (4, .long _)] [.int _] _ _ _ _
    refine pm_e_iff pm_a50_3 rfl (pm_zl_gt 0 (by decide +kernel) (by omega) (by decide +kernel)) ?_
    show pm_E _ _ _ 6 [(0, .long _), (2, .long _), (4, .long _)] [] _ _ _ _
    refine pm_e_sim pm_a50_6 rfl ?_
    show pm_E _ _ _ 7 [(0, .long _), (2, .long _), (4, .long _)] [.long _] _ _ _ _
    refine pm_e_sim pm_a50_7 rfl ?_
    show pm_E _ _ _ 9 [(0, .long _), (2, .long _), (4, .long _)] [.long _, .long _] _ _ _ _
    refine pm_e_sim pm_a50_9 rfl ?_
    show pm_E _ _ _ 10 [(0, .long _), (2, .long _), (4, .long _)] [.int _] _ _ _ _
    refine pm_e_ift pm_a50_10 rfl (pm_zl_gt (-1) (by decide +kernel) (by omega) (by decide +kernel)) ?_
    show pm_E _ _ _ 17 [(0, .long _), (2, .long _), (4, .long _)] [] _ _ _ _
    refine pm_e_sim pm_a50_17 rfl ?_
    refine pm_e_top (y := 0) (by decide +kernel) ?_
    show pm_E _ _ _ 18 [(0, .long _), (2, .long _), (4, .long _)] [.int 0] _ _ _ _
    refine pm_e_ret pm_a50_18 rfl rfl rfl rfl rfl rfl rfl rfl ?_
    show pm_E _ _ _ 13 [(0, .ref 18), (1, .int _)] [.int 0] _ _ _ _
    refine pm_e_ret pm_a61_13 rfl rfl rfl rfl rfl rfl rfl rfl ?_
    show pm_E _ _ _ 5 [(0, .ref 18), (1, .int _)] [.int 0] _ _ _ _
    refine pm_e_iff pm_a75_5 rfl (by decide +kernel) ?_
    show pm_E _ _ _ 8 [(0, .ref 18), (1, .int _)] [] _ _ _ _
    refine pm_e_sim pm_a75_8 rfl ?_
    refine pm_e_top (y := (-1)) (by decide +kernel) ?_
    show pm_E _ _ _ 9 [(0, .ref 18), (1, .int _)] [.int (-1)] _ _ _ _
    refine pm_e_ret pm_a75_9 rfl rfl rfl rfl rfl rfl rfl rfl ?_
    show pm_E _ _ _ 682 [(3, .int 0), (2, .ref 18), (1, .ref 0), (0, .retAddr 0)] [.int (-1), .int (-1)] _ _ _ _
    refine pm_e_ict pm_a0_682 rfl (by decide +kernel) ?_
    show pm_E _ _ _ 779 [(3, .int 0), (2, .ref 18), (1, .ref 0), (0, .retAddr 0)] [] _ _ _ _
    refine pm_e_inc (y := 6) pm_a0_779 rfl (by decide +kernel) (by decide +kernel) rfl ?_
    show pm_E _ _ _ 782 [(3, .int 6), (2, .ref 18), (1, .ref 0), (0, .retAddr 0)] [] _ _ _ _
    refine pm_e_goto pm_a0_782 rfl ?_
    show pm_E _ _ _ 18 [(3, .int 6), (2, .ref 18), (1, .ref 0), (0, .retAddr 0)] [] _ _ _ _
    refine pm_e_sim pm_a0_18 rfl ?_
    show pm_E _ _ _ 19 [(3, .int 6), (2, .ref 18), (1, .ref 0), (0, .retAddr 0)] [.int 6] _ _ _ _
    refine pm_e_sim pm_a0_19 rfl ?_
    show pm_E _ _ _ 20 [(3, .int 6), (2, .ref 18), (1, .ref 0), (0, .retAddr 0)] [.retAddr 0, .int 6] _ _ _ _
    refine pm_e_rd pm_a0_20 rfl rfl rfl ?_
    dsimp only
    refine pm_e_top (y := 6) (by decide +kernel) ?_
    show pm_E _ _ _ 21 [(3, .int 6), (2, .ref 18), (1, .ref 0), (0, .retAddr 0)] [.int 6, .int 6] _ _ _ _
    refine pm_e_sim pm_a0_21 rfl ?_
    refine pm_e_top (y := 6) (by decide +kernel) ?_
    show pm_E _ _ _ 23 [(3, .int 6), (2, .ref 18), (1, .ref 0), (0, .retAddr 0)] [.int 6, .int 6, .int 6] _ _ _ _
    refine pm_e_sim pm_a0_23 rfl ?_
    refine pm_e_top (y := 0) (by decide +kernel) ?_
    show pm_E _ _ _ 24 [(3, .int 6), (2, .ref 18), (1, .ref 0), (0, .retAddr 0)] [.int 0, .int 6] _ _ _ _
    refine pm_e_ict pm_a0_24 rfl (by decide +kernel) ?_
    show pm_E _ _ _ 785 [(3, .int 6), (2, .ref 18), (1, .ref 0), (0, .retAddr 0)] [] _ _ _ _
    refine pm_e_sim pm_a0_785 rfl ?_
    refine pm_e_top (y := 1) (by decide +kernel) ?_
    show pm_E _ _ _ 786 [(3, .int 6), (2, .ref 18), (1, .ref 0), (0, .retAddr 0)] [.int 1] _ _ _ _
    refine pm_e_ret pm_a0_786 rfl rfl rfl rfl rfl rfl rfl rfl ?_
    exact hQ _ _ _ (by decide +kernel) (by decide +kernel)
set_option maxHeartbeats 40000000 in
set_option maxRecDepth 200000 in
theorem pm_op19 (xs : Nat → Int32) {Q : Option Value → List va_E → Nat → Nat → Prop} (hQ : ∀ ph c n, c ≤ 600000 → n ≤ 7302250 → Q (some (.int 1)) ph c n) : pm_E (some (6, xs)) 11 pm_mm0 33 pm_L0 [.int (nI 19)] pm_H0 50 194358 Q := by
  refine pm_e_top (y := 19) (by decide +kernel) ?_
  rcases (show (xs 1).toInt < 0 ∨ (xs 1).toInt = 0 ∨ 0 < (xs 1).toInt by omega) with h1 | h1 | h1
  · refine pm_e_tsi (t := 687) pm_a0_33 rfl (by decide +kernel) ?_
    show pm_E _ _ _ 687 [(3, .int 0), (2, .ref 18), (1, .ref 0), (0, .retAddr 0)] [] _ _ _ _
    refine pm_e_sim pm_a0_687 rfl ?_
    show pm_E _ _ _ 688 [(3, .int 0), (2, .ref 18), (1, .ref 0), (0, .retAddr 0)] [.ref 0] _ _ _ _
    refine pm_e_sim pm_a0_688 rfl ?_
    show pm_E _ _ _ 689 [(3, .int 0), (2, .ref 18), (1, .ref 0), (0, .retAddr 0)] [.retAddr 0, .ref 0] _ _ _ _
    refine pm_e_sim pm_a0_689 rfl ?_
    show pm_E _ _ _ 690 [(3, .int 0), (2, .ref 18), (1, .ref 0), (0, .retAddr 0)] [.int 0, .retAddr 0, .ref 0] _ _ _ _
    refine pm_e_sim pm_a0_690 rfl ?_
    refine pm_e_top (y := 1) (by decide +kernel) ?_
    show pm_E _ _ _ 691 [(3, .int 0), (2, .ref 18), (1, .ref 0), (0, .retAddr 0)] [.int 1, .int 0, .retAddr 0, .ref 0] _ _ _ _
    refine pm_e_sim pm_a0_691 rfl ?_
    refine pm_e_top (y := 1) (by decide +kernel) ?_
    show pm_E _ _ _ 692 [(3, .int 0), (2, .ref 18), (1, .ref 0), (0, .retAddr 0)] [.int 1, .retAddr 0, .ref 0] _ _ _ _
    refine pm_e_sld (j := 1) pm_a0_692 (by decide +kernel) ?_
    show pm_E _ _ _ 693 [(3, .int 0), (2, .ref 18), (1, .ref 0), (0, .retAddr 0)] [.int _, .ref 0] _ _ _ _
    refine pm_e_call (T2 := pm_mm41) pm_a0_693 rfl rfl rfl rfl rfl rfl rfl rfl rfl ?_
    show pm_E _ _ _ 0 [(0, .ref 0), (1, .int _)] [] _ _ _ _
    refine pm_e_sim pm_a41_0 rfl ?_
    show pm_E _ _ _ 1 [(0, .ref 0), (1, .int _)] [.ref 0] _ _ _ _
    refine pm_e_rd pm_a41_1 rfl rfl rfl ?_
    show pm_E _ _ _ 4 [(0, .ref 0), (1, .int _)] [.null] _ _ _ _
    refine pm_e_jmp (pc2 := 7) pm_a41_4 rfl rfl ?_
    show pm_E _ _ _ 7 [(0, .ref 0), (1, .int _)] [] _ _ _ _
    refine pm_e_sim pm_a41_7 rfl ?_
    refine pm_e_top (y := (-1)) (by decide +kernel) ?_
    show pm_E _ _ _ 8 [(0, .ref 0), (1, .int _)] [.int (-1)] _ _ _ _
    refine pm_e_goto pm_a41_8 rfl ?_
    show pm_E _ _ _ 22 [(0, .ref 0), (1, .int _)] [.int (-1)] _ _ _ _
    refine pm_e_ret pm_a41_22 rfl rfl rfl rfl rfl rfl rfl rfl ?_
    show pm_E _ _ _ 696 [(3, .int 0), (2, .ref 18), (1, .ref 0), (0, .retAddr 0)] [.int (-1)] _ _ _ _
    refine pm_e_sim pm_a0_696 rfl ?_
    show pm_E _ _ _ 697 [(3, .int 0), (2, .ref 18), (1, .ref 0), (0, .retAddr 0)] [.ref 18, .int (-1)] _ _ _ _
    refine pm_e_sim pm_a0_697 rfl ?_
    show pm_E _ _ _ 698 [(3, .int 0), (2, .ref 18), (1, .ref 0), (0, .retAddr 0)] [.retAddr 0, .ref 18, .int (-1)] _ _ _ _
    refine pm_e_sim pm_a0_698 rfl ?_
    show pm_E _ _ _ 699 [(3, .int 0), (2, .ref 18), (1, .ref 0), (0, .retAddr 0)] [.int 0, .retAddr 0, .ref 18, .int (-1)] _ _ _ _
    refine pm_e_sim pm_a0_699 rfl ?_
    refine pm_e_top (y := 1) (by decide +kernel) ?_
    show pm_E _ _ _ 700 [(3, .int 0), (2, .ref 18), (1, .ref 0), (0, .retAddr 0)] [.int 1, .int 0, .retAddr 0, .ref 18, .int (-1)] _ _ _ _
    refine pm_e_sim pm_a0_700 rfl ?_
    refine pm_e_top (y := 1) (by decide +kernel) ?_
    show pm_E _ _ _ 701 [(3, .int 0), (2, .ref 18), (1, .ref 0), (0, .retAddr 0)] [.int 1, .retAddr 0, .ref 18, .int (-1)] _ _ _ _
    refine pm_e_sld (j := 1) pm_a0_701 (by decide +kernel) ?_
    show pm_E _ _ _ 702 [(3, .int 0), (2, .ref 18), (1, .ref 0), (0, .retAddr 0)] [.int _, .ref 18, .int (-1)] _ _ _ _
    refine pm_e_call (T2 := pm_mm76) pm_a0_702 rfl rfl rfl rfl rfl rfl rfl rfl rfl ?_
    show pm_E _ _ _ 0 [(0, .ref 18), (1, .int _)] [] _ _ _ _
    refine pm_e_sim pm_a76_0 rfl ?_
    show pm_E _ _ _ 1 [(0, .ref 18), (1, .int _)] [.int _] _ _ _ _
    refine pm_e_sim pm_a76_1 rfl ?_
    show pm_E _ _ _ 2 [(0, .ref 18), (1, .int _)] [.long _] _ _ _ _
    refine pm_e_sim pm_a76_2 rfl ?_
    show pm_E _ _ _ 3 [(0, .ref 18), (1, .int _)] [.long _, .long _] _ _ _ _
    refine pm_e_sim pm_a76_3 rfl ?_
    show pm_E _ _ _ 4 [(0, .ref 18), (1, .int _)] [.ref 18, .long _, .long _] _ _ _ _
    refine pm_e_rd pm_a76_4 rfl rfl rfl ?_
    show pm_E _ _ _ 7 [(0, .ref 18), (1, .int _)] [.int 0, .long _, .long _] _ _ _ _
    refine pm_e_sim pm_a76_7 rfl ?_
    refine pm_e_top (y := 1) (by decide +kernel) ?_
    show pm_E _ _ _ 8 [(0, .ref 18), (1, .int _)] [.int 1, .int 0, .long _, .long _] _ _ _ _
    refine pm_e_sim pm_a76_8 rfl ?_
    refine pm_e_top (y := (-1)) (by decide +kernel) ?_
    show pm_E _ _ _ 9 [(0, .ref 18), (1, .int _)] [.int (-1), .long _, .long _] _ _ _ _
    refine pm_e_sim pm_a76_9 rfl ?_
    show pm_E _ _ _ 10 [(0, .ref 18), (1, .int _)] [.long _, .long _, .long _] _ _ _ _
    refine pm_e_call (T2 := pm_mm50) pm_a76_10 rfl rfl rfl rfl rfl rfl rfl rfl rfl ?_
    show pm_E _ _ _ 0 [(0, .long _), (2, .long _), (4, .long _)] [] _ _ _ _
    refine pm_e_sim pm_a50_0 rfl ?_
    show pm_E _ _ _ 1 [(0, .long _), (2, .long _), (4, .long _)] [.long _] _ _ _ _
    refine pm_e_sim pm_a50_1 rfl ?_
    show pm_E _ _ _ 2 [(0, .long _), (2, .long _), (4, .long _)] [.long _, .long _] _ _ _ _
    refine pm_e_sim pm_a50_2 rfl ?_
    show pm_E _ _ _ 3 [(0, .long _), (2, .long _), (4, .long _)] [.int _] _ _ _ _
    refine pm_e_ift pm_a50_3 rfl (pm_zl_lt 0 (by decide +kernel) (by omega) (by decide +kernel)) ?_
    show pm_E _ _ _ 17 [(0, .long _), (2, .long _), (4, .long _)] [] _ _ _ _
    refine pm_e_sim pm_a50_17 rfl ?_
    refine pm_e_top (y := 0) (by decide +kernel) ?_
    show pm_E _ _ _ 18 [(0, .long _), (2, .long _), (4, .long _)] [.int 0] _ _ _ _
    refine pm_e_ret pm_a50_18 rfl rfl rfl rfl rfl rfl rfl rfl ?_
    show pm_E _ _ _ 13 [(0, .ref 18), (1, .int _)] [.int 0] _ _ _ _
    refine pm_e_ift pm_a76_13 rfl (by decide +kernel) ?_
    show pm_E _ _ _ 25 [(0, .ref 18), (1, .int _)] [] _ _ _ _
    refine pm_e_sim pm_a76_25 rfl ?_
    refine pm_e_top (y := (-1)) (by decide +kernel) ?_
    show pm_E _ _ _ 26 [(0, .ref 18), (1, .int _)] [.int (-1)] _ _ _ _
    refine pm_e_ret pm_a76_26 rfl rfl rfl rfl rfl rfl rfl rfl ?_
    show pm_E _ _ _ 705 [(3, .int 0), (2, .ref 18), (1, .ref 0), (0, .retAddr 0)] [.int (-1), .int (-1)] _ _ _ _
    refine pm_e_ict pm_a0_705 rfl (by decide +kernel) ?_
    show pm_E _ _ _ 779 [(3, .int 0), (2, .ref 18), (1, .ref 0), (0, .retAddr 0)] [] _ _ _ _
    refine pm_e_inc (y := 6) pm_a0_779 rfl (by decide +kernel) (by decide +kernel) rfl ?_
    show pm_E _ _ _ 782 [(3, .int 6), (2, .ref 18), (1, .ref 0), (0, .retAddr 0)] [] _ _ _ _
    refine pm_e_goto pm_a0_782 rfl ?_
    show pm_E _ _ _ 18 [(3, .int 6), (2, .ref 18), (1, .ref 0), (0, .retAddr 0)] [] _ _ _ _
    refine pm_e_sim pm_a0_18 rfl ?_
    show pm_E _ _ _ 19 [(3, .int 6), (2, .ref 18), (1, .ref 0), (0, .retAddr 0)] [.int 6] _ _ _ _
    refine pm_e_sim pm_a0_19 rfl ?_
    show pm_E _ _ _ 20 [(3, .int 6), (2, .ref 18), (1, .ref 0), (0, .retAddr 0)] [.retAddr 0, .int 6] _ _ _ _
    refine pm_e_rd pm_a0_20 rfl rfl rfl ?_
    dsimp only
    refine pm_e_top (y := 6) (by decide +kernel) ?_
    show pm_E _ _ _ 21 [(3, .int 6), (2, .ref 18), (1, .ref 0), (0, .retAddr 0)] [.int 6, .int 6] _ _ _ _
    refine pm_e_sim pm_a0_21 rfl ?_
    refine pm_e_top (y := 6) (by decide +kernel) ?_
    show pm_E _ _ _ 23 [(3, .int 6), (2, .ref 18), (1, .ref 0), (0, .retAddr 0)] [.int 6, .int 6, .int 6] _ _ _ _
    refine pm_e_sim pm_a0_23 rfl ?_
    refine pm_e_top (y := 0) (by decide +kernel) ?_
    show pm_E _ _ _ 24 [(3, .int 6), (2, .ref 18), (1, .ref 0), (0, .retAddr 0)] [.int 0, .int 6] _ _ _ _
    refine pm_e_ict pm_a0_24 rfl (by decide +kernel) ?_
    show pm_E _ _ _ 785 [(3, .int 6), (2, .ref 18), (1, .ref 0), (0, .retAddr 0)] [] _ _ _ _
    refine pm_e_sim pm_a0_785 rfl ?_
    refine pm_e_top (y := 1) (by decide +kernel) ?_
    show pm_E _ _ _ 786 [(3, .int 6), (2, .ref 18), (1, .ref 0), (0, .retAddr 0)] [.int 1] _ _ _ _
    refine pm_e_ret pm_a0_786 rfl rfl rfl rfl rfl rfl rfl rfl ?_
    exact hQ _ _ _ (by decide +kernel) (by decide +kernel)
  · refine pm_e_tsi (t := 687) pm_a0_33 rfl (by decide +kernel) ?_
    show pm_E _ _ _ 687 [(3, .int 0), (2, .ref 18), (1, .ref 0), (0, .retAddr 0)] [] _ _ _ _
    refine pm_e_sim pm_a0_687 rfl ?_
    show pm_E _ _ _ 688 [(3, .int 0), (2, .ref 18), (1, .ref 0), (0, .retAddr 0)] [.ref 0] _ _ _ _
    refine pm_e_sim pm_a0_688 rfl ?_
    show pm_E _ _ _ 689 [(3, .int 0), (2, .ref 18), (1, .ref 0), (0, .retAddr 0)] [.retAddr 0, .ref 0] _ _ _ _
    refine pm_e_sim pm_a0_689 rfl ?_
    show pm_E _ _ _ 690 [(3, .int 0), (2, .ref 18), (1, .ref 0), (0, .retAddr 0)] [.int 0, .retAddr 0, .ref 0] _ _ _ _
    refine pm_e_sim pm_a0_690 rfl ?_
    refine pm_e_top (y := 1) (by decide +kernel) ?_
    show pm_E _ _ _ 691 [(3, .int 0), (2, .ref 18), (1, .ref 0), (0, .retAddr 0)] [.int 1, .int 0, .retAddr 0, .ref 0] _ _ _ _
    refine pm_e_sim pm_a0_691 rfl ?_
    refine pm_e_top (y := 1) (by decide +kernel) ?_
    show pm_E _ _ _ 692 [(3, .int 0), (2, .ref 18), (1, .ref 0), (0, .retAddr 0)] [.int 1, .retAddr 0, .ref 0] _ _ _ _
    refine pm_e_sld (j := 1) pm_a0_692 (by decide +kernel) ?_
    show pm_E _ _ _ 693 [(3, .int 0), (2, .ref 18), (1, .ref 0), (0, .retAddr 0)] [.int _, .ref 0] _ _ _ _
    refine pm_e_call (T2 := pm_mm41) pm_a0_693 rfl rfl rfl rfl rfl rfl rfl rfl rfl ?_
    show pm_E _ _ _ 0 [(0, .ref 0), (1, .int _)] [] _ _ _ _
    refine pm_e_sim pm_a41_0 rfl ?_
    show pm_E _ _ _ 1 [(0, .ref 0), (1, .int _)] [.ref 0] _ _ _ _
    refine pm_e_rd pm_a41_1 rfl rfl rfl ?_
    show pm_E _ _ _ 4 [(0, .ref 0), (1, .int _)] [.null] _ _ _ _
    refine pm_e_jmp (pc2 := 7) pm_a41_4 rfl rfl ?_
    show pm_E _ _ _ 7 [(0, .ref 0), (1, .int _)] [] _ _ _ _
    refine pm_e_sim pm_a41_7 rfl ?_
    refine pm_e_top (y := (-1)) (by decide +kernel) ?_
    show pm_E _ _ _ 8 [(0, .ref 0), (1, .int _)] [.int (-1)] _ _ _ _
    refine pm_e_goto pm_a41_8 rfl ?_
    show pm_E _ _ _ 22 [(0, .ref 0), (1, .int _)] [.int (-1)] _ _ _ _
    refine pm_e_ret pm_a41_22 rfl rfl rfl rfl rfl rfl rfl rfl ?_
    show pm_E _ _ _ 696 [(3, .int 0), (2, .ref 18), (1, .ref 0), (0, .retAddr 0)] [.int (-1)] _ _ _ _
    refine pm_e_sim pm_a0_696 rfl ?_
    show pm_E _ _ _ 697 [(3, .int 0), (2, .ref 18), (1, .ref 0), (0, .retAddr 0)] [.ref 18, .int (-1)] _ _ _ _
    refine pm_e_sim pm_a0_697 rfl ?_
    show pm_E _ _ _ 698 [(3, .int 0), (2, .ref 18), (1, .ref 0), (0, .retAddr 0)] [.retAddr 0, .ref 18, .int (-1)] _ _ _ _
    refine pm_e_sim pm_a0_698 rfl ?_
    show pm_E _ _ _ 699 [(3, .int 0), (2, .ref 18), (1, .ref 0), (0, .retAddr 0)] [.int 0, .retAddr 0, .ref 18, .int (-1)] _ _ _ _
    refine pm_e_sim pm_a0_699 rfl ?_
    refine pm_e_top (y := 1) (by decide +kernel) ?_
    show pm_E _ _ _ 700 [(3, .int 0), (2, .ref 18), (1, .ref 0), (0, .retAddr 0)] [.int 1, .int 0, .retAddr 0, .ref 18, .int (-1)] _ _ _ _
    refine pm_e_sim pm_a0_700 rfl ?_
    refine pm_e_top (y := 1) (by decide +kernel) ?_
    show pm_E _ _ _ 701 [(3, .int 0), (2, .ref 18), (1, .ref 0), (0, .retAddr 0)] [.int 1, .retAddr 0, .ref 18, .int (-1)] _ _ _ _
    refine pm_e_sld (j := 1) pm_a0_701 (by decide +kernel) ?_
    show pm_E _ _ _ 702 [(3, .int 0), (2, .ref 18), (1, .ref 0), (0, .retAddr 0)] [.int _, .ref 18, .int (-1)] _ _ _ _
    refine pm_e_call (T2 := pm_mm76) pm_a0_702 rfl rfl rfl rfl rfl rfl rfl rfl rfl ?_
    show pm_E _ _ _ 0 [(0, .ref 18), (1, .int _)] [] _ _ _ _
    refine pm_e_sim pm_a76_0 rfl ?_
    show pm_E _ _ _ 1 [(0, .ref 18), (1, .int _)] [.int _] _ _ _ _
    refine pm_e_sim pm_a76_1 rfl ?_
    show pm_E _ _ _ 2 [(0, .ref 18), (1, .int _)] [.long _] _ _ _ _
    refine pm_e_sim pm_a76_2 rfl ?_
    show pm_E _ _ _ 3 [(0, .ref 18), (1, .int _)] [.long _, .long _] _ _ _ _
    refine pm_e_sim pm_a76_3 rfl ?_
    show pm_E _ _ _ 4 [(0, .ref 18), (1, .int _)] [.ref 18, .long _, .long _] _ _ _ _
    refine pm_e_rd pm_a76_4 rfl rfl rfl ?_
    show pm_E _ _ _ 7 [(0, .ref 18), (1, .int _)] [.int 0, .long _, .long _] _ _ _ _
    refine pm_e_sim pm_a76_7 rfl ?_
    refine pm_e_top (y := 1) (by decide +kernel) ?_
    show pm_E _ _ _ 8 [(0, .ref 18), (1, .int _)] [.int 1, .int 0, .long _, .long _] _ _ _ _
    refine pm_e_sim pm_a76_8 rfl ?_
    refine pm_e_top (y := (-1)) (by decide +kernel) ?_
    show pm_E _ _ _ 9 [(0, .ref 18), (1, .int _)] [.int (-1), .long _, .long _] _ _ _ _
    refine pm_e_sim pm_a76_9 rfl ?_
    show pm_E _ _ _ 10 [(0, .ref 18), (1, .int _)] [.long _, .long _, .long _] _ _ _ _
    refine pm_e_call (T2 := pm_mm50) pm_a76_10 rfl rfl rfl rfl rfl rfl rfl rfl rfl ?_
    show pm_E _ _ _ 0 [(0, .long _), (2, .long _), (4, .long _)] [] _ _ _ _
    refine pm_e_sim pm_a50_0 rfl ?_
    show pm_E _ _ _ 1 [(0, .long _), (2, .long _), (4, .long _)] [.long _] _ _ _ _
    refine pm_e_sim pm_a50_1 rfl ?_
    show pm_E _ _ _ 2 [(0, .long _), (2, .long _), (4, .long _)] [.long _, .long _] _ _ _ _
    refine pm_e_sim pm_a50_2 rfl ?_
    show pm_E _ _ _ 3 [(0, .long _), (2, .long _), (4, .long _)] [.int _] _ _ _ _
    refine pm_e_iff pm_a50_3 rfl (pm_zl_eq 0 (by decide +kernel) (by omega) (by decide +kernel)) ?_
    show pm_E _ _ _ 6 [(0, .long _), (2, .long _), (4, .long _)] [] _ _ _ _
    refine pm_e_sim pm_a50_6 rfl ?_
    show pm_E _ _ _ 7 [(0, .long _), (2, .long _), (4, .long _)] [.long _] _ _ _ _
    refine pm_e_sim pm_a50_7 rfl ?_
    show pm_E _ _ _ 9 [(0, .long _), (2, .long _), (4, .long _)] [.long _, .long _] _ _ _ _
    refine pm_e_sim pm_a50_9 rfl ?_
    show pm_E _ _ _ 10 [(0, .long _), (2, .long _), (4, .long _)] [.int _] _ _ _ _
    refine pm_e_ift pm_a50_10 rfl (pm_zl_gt (-1) (by decide +kernel) (by omega) (by decide +kernel)) ?_
    show pm_E _ _ _ 17 [(0, .long _), (2, .long _), (4, .long _)] [] _ _ _ _
    refine pm_e_sim pm_a50_17 rfl ?_
    refine pm_e_top (y := 0) (by decide +kernel) ?_
    show pm_E _ _ _ 18 [(0, .long _), (2, .long _), (4, .long _)] [.int 0] _ _ _ _
    refine pm_e_ret pm_a50_18 rfl rfl rfl rfl rfl rfl rfl rfl ?_
    show pm_E _ _ _ 13 [(0, .ref 18), (1, .int _)] [.int 0] _ _ _ _
    refine pm_e_ift pm_a76_13 rfl (by decide +kernel) ?_
    show pm_E _ _ _ 25 [(0, .ref 18), (1, .int _)] [] _ _ _ _
    refine pm_e_sim pm_a76_25 rfl ?_
    refine pm_e_top (y := (-1)) (by decide +kernel) ?_
    show pm_E _ _ _ 26 [(0, .ref 18), (1, .int _)] [.int (-1)] _ _ _ _
    refine pm_e_ret pm_a76_26 rfl rfl rfl rfl rfl rfl rfl rfl ?_
    show pm_E _ _ _ 705 [(3, .int 0), (2, .ref 18), (1, .ref 0), (0, .retAddr 0)] [.int (-1), .int (-1)] _ _ _ _
    refine pm_e_ict pm_a0_705 rfl (by decide +kernel) ?_
    show pm_E _ _ _ 779 [(3, .int 0), (2, .ref 18), (1, .ref 0), (0, .retAddr 0)] [] _ _ _ _
    refine pm_e_inc (y := 6) pm_a0_779 rfl (by decide +kernel) (by decide +kernel) rfl ?_
    show pm_E _ _ _ 782 [(3, .int 6), (2, .ref 18), (1, .ref 0), (0, .retAddr 0)] [] _ _ _ _
    refine pm_e_goto pm_a0_782 rfl ?_
    show pm_E _ _ _ 18 [(3, .int 6), (2, .ref 18), (1, .ref 0), (0, .retAddr 0)] [] _ _ _ _
    refine pm_e_sim pm_a0_18 rfl ?_
    show pm_E _ _ _ 19 [(3, .int 6), (2, .ref 18), (1, .ref 0), (0, .retAddr 0)] [.int 6] _ _ _ _
    refine pm_e_sim pm_a0_19 rfl ?_
    show pm_E _ _ _ 20 [(3, .int 6), (2, .ref 18), (1, .ref 0), (0, .retAddr 0)] [.retAddr 0, .int 6] _ _ _ _
    refine pm_e_rd pm_a0_20 rfl rfl rfl ?_
    dsimp only
    refine pm_e_top (y := 6) (by decide +kernel) ?_
    show pm_E _ _ _ 21 [(3, .int 6), (2, .ref 18), (1, .ref 0), (0, .retAddr 0)] [.int 6, .int 6] _ _ _ _
    refine pm_e_sim pm_a0_21 rfl ?_
    refine pm_e_top (y := 6) (by decide +kernel) ?_
    show pm_E _ _ _ 23 [(3, .int 6), (2, .ref 18), (1, .ref 0), (0, .retAddr 0)] [.int 6, .int 6, .int 6] _ _ _ _
    refine pm_e_sim pm_a0_23 rfl ?_
    refine pm_e_top (y := 0) (by decide +kernel) ?_
    show pm_E _ _ _ 24 [(3, .int 6), (2, .ref 18), (1, .ref 0), (0, .retAddr 0)] [.int 0, .int 6] _ _ _ _
    refine pm_e_ict pm_a0_24 rfl (by decide +kernel) ?_
    show pm_E _ _ _ 785 [(3, .int 6), (2, .ref 18), (1, .ref 0), (0, .retAddr 0)] [] _ _ _ _
    refine pm_e_sim pm_a0_785 rfl ?_
    refine pm_e_top (y := 1) (by decide +kernel) ?_
    show pm_E _ _ _ 786 [(3, .int 6), (2, .ref 18), (1, .ref 0), (0, .retAddr 0)] [.int 1] _ _ _ _
    refine pm_e_ret pm_a0_786 rfl rfl rfl rfl rfl rfl rfl rfl ?_
    exact hQ _ _ _ (by decide +kernel) (by decide +kernel)
  · refine pm_e_tsi (t := 687) pm_a0_33 rfl (by decide +kernel) ?_
    show pm_E _ _ _ 687 [(3, .int 0), (2, .ref 18), (1, .ref 0), (0, .retAddr 0)] [] _ _ _ _
    refine pm_e_sim pm_a0_687 rfl ?_
    show pm_E _ _ _ 688 [(3, .int 0), (2, .ref 18), (1, .ref 0), (0, .retAddr 0)] [.ref 0] _ _ _ _
    refine pm_e_sim pm_a0_688 rfl ?_
    show pm_E _ _ _ 689 [(3, .int 0), (2, .ref 18), (1, .ref 0), (0, .retAddr 0)] [.retAddr 0, .ref 0] _ _ _ _
    refine pm_e_sim pm_a0_689 rfl ?_
    show pm_E _ _ _ 690 [(3, .int 0), (2, .ref 18), (1, .ref 0), (0, .retAddr 0)] [.int 0, .retAddr 0, .ref 0] _ _ _ _
    refine pm_e_sim pm_a0_690 rfl ?_
    refine pm_e_top (y := 1) (by decide +kernel) ?_
    show pm_E _ _ _ 691 [(3, .int 0), (2, .ref 18), (1, .ref 0), (0, .retAddr 0)] [.int 1, .int 0, .retAddr 0, .ref 0] _ _ _ _
    refine pm_e_sim pm_a0_691 rfl ?_
    refine pm_e_top (y := 1) (by decide +kernel) ?_
    show pm_E _ _ _ 692 [(3, .int 0), (2, .ref 18), (1, .ref 0), (0, .retAddr 0)] [.int 1, .retAddr 0, .ref 0] _ _ _ _
    refine pm_e_sld (j := 1) pm_a0_692 (by decide +kernel) ?_
    show pm_E _ _ _ 693 [(3, .int 0), (2, .ref 18), (1, .ref 0), (0, .retAddr 0)] [.int _, .ref 0] _ _ _ _
    refine pm_e_call (T2 := pm_mm41) pm_a0_693 rfl rfl rfl rfl rfl rfl rfl rfl rfl ?_
    show pm_E _ _ _ 0 [(0, .ref 0), (1, .int _)] [] _ _ _ _
    refine pm_e_sim pm_a41_0 rfl ?_
    show pm_E _ _ _ 1 [(0, .ref 0), (1, .int _)] [.ref 0] _ _ _ _
    refine pm_e_rd pm_a41_1 rfl rfl rfl ?_
    show pm_E _ _ _ 4 [(0, .ref 0), (1, .int _)] [.null] _ _ _ _
    refine pm_e_jmp (pc2 := 7) pm_a41_4 rfl rfl ?_
    show pm_E _ _ _ 7 [(0, .ref 0), (1, .int _)] [] _ _ _ _
    refine pm_e_sim pm_a41_7 rfl ?_
    refine pm_e_top (y := (-1)) (by decide +kernel) ?_
    show pm_E _ _ _ 8 [(0, .ref 0), (1, .int _)] [.int (-1)] _ _ _ _
    refine pm_e_goto pm_a41_8 rfl ?_
    show pm_E _ _ _ 22 [(0, .ref 0), (1, .int _)] [.int (-1)] _ _ _ _
    refine pm_e_ret pm_a41_22 rfl rfl rfl rfl rfl rfl rfl rfl ?_
    show pm_E _ _ _ 696 [(3, .int 0), (2, .ref 18), (1, .ref 0), (0, .retAddr 0)] [.int (-1)] _ _ _ _
    refine pm_e_sim pm_a0_696 rfl ?_
    show pm_E _ _ _ 697 [(3, .int 0), (2, .ref 18), (1, .ref 0), (0, .retAddr 0)] [.ref 18, .int (-1)] _ _ _ _
    refine pm_e_sim pm_a0_697 rfl ?_
    show pm_E _ _ _ 698 [(3, .int 0), (2, .ref 18), (1, .ref 0), (0, .retAddr 0)] [.retAddr 0, .ref 18, .int (-1)] _ _ _ _
    refine pm_e_sim pm_a0_698 rfl ?_
    show pm_E _ _ _ 699 [(3, .int 0), (2, .ref 18), (1, .ref 0), (0, .retAddr 0)] [.int 0, .retAddr 0, .ref 18, .int (-1)] _ _ _ _
    refine pm_e_sim pm_a0_699 rfl ?_
    refine pm_e_top (y := 1) (by decide +kernel) ?_
    show pm_E _ _ _ 700 [(3, .int 0), (2, .ref 18), (1, .ref 0), (0, .retAddr 0)] [.int 1, .int 0, .retAddr 0, .ref 18, .int (-1)] _ _ _ _
    refine pm_e_sim pm_a0_700 rfl ?_
    refine pm_e_top (y := 1) (by decide +kernel) ?_
    show pm_E _ _ _ 701 [(3, .int 0), (2, .ref 18), (1, .ref 0), (0, .retAddr 0)] [.int 1, .retAddr 0, .ref 18, .int (-1)] _ _ _ _
    refine pm_e_sld (j := 1) pm_a0_701 (by decide +kernel) ?_
    show pm_E _ _ _ 702 [(3, .int 0), (2, .ref 18), (1, .ref 0), (0, .retAddr 0)] [.int _, .ref 18, .int (-1)] _ _ _ _
    refine pm_e_call (T2 := pm_mm76) pm_a0_702 rfl rfl rfl rfl rfl rfl rfl rfl rfl ?_
    show pm_E _ _ _ 0 [(0, .ref 18), (1, .int _)] [] _ _ _ _
    refine pm_e_sim pm_a76_0 rfl ?_
    show pm_E _ _ _ 1 [(0, .ref 18), (1, .int _)] [.int _] _ _ _ _
    refine pm_e_sim pm_a76_1 rfl ?_
    show pm_E _ _ _ 2 [(0, .ref 18), (1, .int _)] [.long _] _ _ _ _
    refine pm_e_sim pm_a76_2 rfl ?_
    show pm_E _ _ _ 3 [(0, .ref 18), (1, .int _)] [.long _, .long _] _ _ _ _
    refine pm_e_sim pm_a76_3 rfl ?_
    show pm_E _ _ _ 4 [(0, .ref 18), (1, .int _)] [.ref 18, .long _, .long _] _ _ _ _
    refine pm_e_rd pm_a76_4 rfl rfl rfl ?_
    show pm_E _ _ _ 7 [(0, .ref 18), (1, .int _)] [.int 0, .long _, .long _] _ _ _ _
    refine pm_e_sim pm_a76_7 rfl ?_
    refine pm_e_top (y := 1) (by decide +kernel) ?_
    show pm_E _ _ _ 8 [(0, .ref 18), (1, .int _)] [.int 1, .int 0, .long _, .long _] _ _ _ _
    refine pm_e_sim pm_a76_8 rfl ?_
    refine pm_e_top (y := (-1)) (by decide +kernel) ?_
    show pm_E _ _ _ 9 [(0, .ref 18), (1, .int _)] [.int (-1), .long _, .long _] _ _ _ _
    refine pm_e_sim pm_a76_9 rfl ?_
    show pm_E _ _ _ 10 [(0, .ref 18), (1, .int _)] [.long _, .long _, .long _] _ _ _ _
    refine pm_e_call (T2 := pm_mm50) pm_a76_10 rfl rfl rfl rfl rfl rfl rfl rfl rfl ?_
    show pm_E _ _ _ 0 [(0, .long _), (2, .long _), (4, .long _)] [] _ _ _ _
    refine pm_e_sim pm_a50_0 rfl ?_
    show pm_E _ _ _ 1 [(0, .long _), (2, .long _), (4, .long _)] [.long _] _ _ _ _
    refine pm_e_sim pm_a50_1 rfl ?_
    show pm_E _ _ _ 2 [(0, .long _), (2, .long _), (4, .long _)] [.long _, .long _] _ _ _ _
    refine pm_e_sim pm_a50_2 rfl ?_
    show pm_E _ _ _ 3 [(0, .long _), (2, .long _), (4, .long _)] [.int _] _ _ _ _
    refine pm_e_iff pm_a50_3 rfl (pm_zl_gt 0 (by decide +kernel) (by omega) (by decide +kernel)) ?_
    show pm_E _ _ _ 6 [(0, .long _), (2, .long _), (4, .long _)] [] _ _ _ _
    refine pm_e_sim pm_a50_6 rfl ?_
    show pm_E _ _ _ 7 [(0, .long _), (2, .long _), (4, .long _)] [.long _] _ _ _ _
    refine pm_e_sim pm_a50_7 rfl ?_
    show pm_E _ _ _ 9 [(0, .long _), (2, .long _), (4, .long _)] [.long _, .long _] _ _ _ _
    refine pm_e_sim pm_a50_9 rfl ?_
    show pm_E _ _ _ 10 [(0, .long _), (2, .long _), (4, .long _)] [.int _] _ _ _ _
    refine pm_e_ift pm_a50_10 rfl (pm_zl_gt (-1) (by decide +kernel) (by omega) (by decide +kernel)) ?_
    show pm_E _ _ _ 17 [(0, .long _), (2, .long _), (4, .long _)] [] _ _ _ _
    refine pm_e_sim pm_a50_17 rfl ?_
    refine pm_e_top (y := 0) (by decide +kernel) ?_
    show pm_E _ _ _ 18 [(0, .long _), (2, .long _), (4, .long _)] [.int 0] _ _ _ _
    refine pm_e_ret pm_a50_18 rfl rfl rfl rfl rfl rfl rfl rfl ?_
    show pm_E _ _ _ 13 [(0, .ref 18), (1, .int _)] [.int 0] _ _ _ _
    refine pm_e_ift pm_a76_13 rfl (by decide +kernel) ?_
    show pm_E _ _ _ 25 [(0, .ref 18), (1, .int _)] [] _ _ _ _
    refine pm_e_sim pm_a76_25 rfl ?_
    refine pm_e_top (y := (-1)) (by decide +kernel) ?_
    show pm_E _ _ _ 26 [(0, .ref 18), (1, .int _)] [.int (-1)] _ _ _ _
    refine pm_e_ret pm_a76_26 rfl rfl rfl rfl rfl rfl rfl rfl ?_
    show pm_E _ _ _ 705 [(3, .int 0), (2, .ref 18), (1, .ref 0), (0, .retAddr 0)] [.int (-1), .int (-1)] _ _ _ _
    refine pm_e_ict pm_a0_705 rfl (by decide +kernel) ?_
    show pm_E _ _ _ 779 [(3, .int 0), (2, .ref 18), (1, .ref 0), (0, .retAddr 0)] [] _ _ _ _
    refine pm_e_inc (y := 6) pm_a0_779 rfl (by decide +kernel) (by decide +kernel) rfl ?_
    show pm_E _ _ _ 782 [(3, .int 6), (2, .ref 18), (1, .ref 0), (0, .retAddr 0)] [] _ _ _ _
    refine pm_e_goto pm_a0_782 rfl ?_
    show pm_E _ _ _ 18 [(3, .int 6), (2, .ref 18), (1, .ref 0), (0, .retAddr 0)] [] _ _ _ _
    refine pm_e_sim pm_a0_18 rfl ?_
    show pm_E _ _ _ 19 [(3, .int 6), (2, .ref 18), (1, .ref 0), (0, .retAddr 0)] [.int 6] _ _ _ _
    refine pm_e_sim pm_a0_19 rfl ?_
    show pm_E _ _ _ 20 [(3, .int 6), (2, .ref 18), (1, .ref 0), (0, .retAddr 0)] [.retAddr 0, .int 6] _ _ _ _
    refine pm_e_rd pm_a0_20 rfl rfl rfl ?_
    dsimp only
    refine pm_e_top (y := 6) (by decide +kernel) ?_
    show pm_E _ _ _ 21 [(3, .int 6), (2, .ref 18), (1, .ref 0), (0, .retAddr 0)] [.int 6, .int 6] _ _ _ _
    refine pm_e_sim pm_a0_21 rfl ?_
    refine pm_e_top (y := 6) (by decide +kernel) ?_
    show pm_E _ _ _ 23 [(3, .int 6), (2, .ref 18), (1, .ref 0), (0, .retAddr 0)] [.int 6, .int 6, .int 6] _ _ _ _
    refine pm_e_sim pm_a0_23 rfl ?_
    refine pm_e_top (y := 0) (by decide +kernel) ?_
    show pm_E _ _ _ 24 [(3, .int 6), (2, .ref 18), (1, .ref 0), (0, .retAddr 0)] [.int 0, .int 6] _ _ _ _
    refine pm_e_ict pm_a0_24 rfl (by decide +kernel) ?_
    show pm_E _ _ _ 785 [(3, .int 6), (2, .ref 18), (1, .ref 0), (0, .retAddr 0)] [] _ _ _ _
    refine pm_e_sim pm_a0_785 rfl ?_
    refine pm_e_top (y := 1) (by decide +kernel) ?_
    show pm_E _ _ _ 786 [(3, .int 6), (2, .ref 18), (1, .ref 0), (0, .retAddr 0)] [.int 1] _ _ _ _
    refine pm_e_ret pm_a0_786 rfl rfl rfl rfl rfl rfl rfl rfl ?_
    exact hQ _ _ _ (by decide +kernel) (by decide +kernel)
set_option maxHeartbeats 40000000 in
set_option maxRecDepth 200000 in
theorem pm_op20 (xs : Nat → Int32) {Q : Option Value → List va_E → Nat → Nat → Prop} (hQ : ∀ ph c n, c ≤ 600000 → n ≤ 7302250 → Q (some (.int 1)) ph c n) : pm_E (some (6, xs)) 11 pm_mm0 33 pm_L0 [.int (nI 20)] pm_H0 50 194358 Q := by
  refine pm_e_top (y := 20) (by decide +kernel) ?_
  rcases (show (xs 1).toInt < 0 ∨ (xs 1).toInt = 0 ∨ 0 < (xs 1).toInt by omega) with h1 | h1 | h1
  · refine pm_e_tsi (t := 710) pm_a0_33 rfl (by decide +kernel) ?_
    show pm_E _ _ _ 710 [(3, .int 0), (2, .ref 18), (1, .ref 0), (0, .retAddr 0)] [] _ _ _ _
    refine pm_e_sim pm_a0_710 rfl ?_
    show pm_E _ _ _ 711 [(3, .int 0), (2, .ref 18), (1, .ref 0), (0, .retAddr 0)] [.ref 0] _ _ _ _
    refine pm_e_sim pm_a0_711 rfl ?_
    show pm_E _ _ _ 712 [(3, .int 0), (2, .ref 18), (1, .ref 0), (0, .retAddr 0)] [.retAddr 0, .ref 0] _ _ _ _
    refine pm_e_sim pm_a0_712 rfl ?_
    show pm_E _ _ _ 713 [(3, .int 0), (2, .ref 18), (1, .ref 0), (0, .retAddr 0)] [.int 0, .retAddr 0, .ref 0] _ _ _ _
    refine pm_e_sim pm_a0_713 rfl ?_
    refine pm_e_top (y := 1) (by decide +kernel) ?_
    show pm_E _ _ _ 714 [(3, .int 0), (2, .ref 18), (1, .ref 0), (0, .retAddr 0)] [.int 1, .int 0, .retAddr 0, .ref 0] _ _ _ _
    refine pm_e_sim pm_a0_714 rfl ?_
    refine pm_e_top (y := 1) (by decide +kernel) ?_
    show pm_E _ _ _ 715 [(3, .int 0), (2, .ref 18), (1, .ref 0), (0, .retAddr 0)] [.int 1, .retAddr 0, .ref 0] _ _ _ _
    refine pm_e_sld (j := 1) pm_a0_715 (by decide +kernel) ?_
    show pm_E _ _ _ 716 [(3, .int 0), (2, .ref 18), (1, .ref 0), (0, .retAddr 0)] [.int _, .ref 0] _ _ _ _
    refine pm_e_sim pm_a0_716 rfl ?_
    show pm_E _ _ _ 717 [(3, .int 0), (2, .ref 18), (1, .ref 0), (0, .retAddr 0)] [.retAddr 0, .int _, .ref 0] _ _ _ _
    refine pm_e_sim pm_a0_717 rfl ?_
    show pm_E _ _ _ 718 [(3, .int 0), (2, .ref 18), (1, .ref 0), (0, .retAddr 0)] [.int 0, .retAddr 0, .int _, .ref 0] _ _ _ _
    refine pm_e_sim pm_a0_718 rfl ?_
    refine pm_e_top (y := 2) (by decide +kernel) ?_
    show pm_E _ _ _ 719 [(3, .int 0), (2, .ref 18), (1, .ref 0), (0, .retAddr 0)] [.int 2, .int 0, .retAddr 0, .int _, .ref 0] _ _ _ _
    refine pm_e_sim pm_a0_719 rfl ?_
    refine pm_e_top (y := 2) (by decide +kernel) ?_
    show pm_E _ _ _ 720 [(3, .int 0), (2, .ref 18), (1, .ref 0), (0, .retAddr 0)] [.int 2, .retAddr 0, .int _, .ref 0] _ _ _ _
    refine pm_e_sld (j := 2) pm_a0_720 (by decide +kernel) ?_
    show pm_E _ _ _ 721 [(3, .int 0), (2, .ref 18), (1, .ref 0), (0, .retAddr 0)] [.int _, .int _, .ref 0] _ _ _ _
    refine pm_e_call (T2 := pm_mm42) pm_a0_721 rfl rfl rfl rfl rfl rfl rfl rfl rfl ?_
    show pm_E _ _ _ 0 [(0, .ref 0), (1, .int _), (2, .int _)] [] _ _ _ _
    refine pm_e_sim pm_a42_0 rfl ?_
    show pm_E _ _ _ 1 [(0, .ref 0), (1, .int _), (2, .int _)] [.ref 0] _ _ _ _
    refine pm_e_sim pm_a42_1 rfl ?_
    show pm_E _ _ _ 2 [(0, .ref 0), (1, .int _), (2, .int _)] [.int _, .ref 0] _ _ _ _
    refine pm_e_call (T2 := pm_mm26) pm_a42_2 rfl rfl rfl rfl rfl rfl rfl rfl rfl ?_
    show pm_E _ _ _ 0 [(0, .ref 0), (1, .int _)] [] _ _ _ _
    refine pm_e_sim pm_a26_0 rfl ?_
    show pm_E _ _ _ 1 [(0, .ref 0), (1, .int _)] [.int _] _ _ _ _
    refine pm_e_ift pm_a26_1 rfl (pm_z_lt_t 0 (by decide +kernel) (by omega)) ?_
    show pm_E _ _ _ 30 [(0, .ref 0), (1, .int _)] [] _ _ _ _
    refine pm_e_sim pm_a26_30 rfl ?_
    show pm_E _ _ _ 31 [(0, .ref 0), (1, .int _)] [.null] _ _ _ _
    refine pm_e_ret pm_a26_31 rfl rfl rfl rfl rfl rfl rfl rfl ?_
    show pm_E _ _ _ 5 [(0, .ref 0), (1, .int _), (2, .int _)] [.null] _ _ _ _
    refine pm_e_sim pm_a42_5 rfl ?_
    show pm_E _ _ _ 6 [(3, .null), (0, .ref 0), (1, .int _), (2, .int _)] [] _ _ _ _
    refine pm_e_sim pm_a42_6 rfl ?_
    show pm_E _ _ _ 7 [(3, .null), (0, .ref 0), (1, .int _), (2, .int _)] [.null] _ _ _ _
    refine pm_e_jmp (pc2 := 10) pm_a42_7 rfl rfl ?_
    show pm_E _ _ _ 10 [(3, .null), (0, .ref 0), (1, .int _), (2, .int _)] [] _ _ _ _
    refine pm_e_sim pm_a42_10 rfl ?_
    refine pm_e_top (y := (-1)) (by decide +kernel) ?_
    show pm_E _ _ _ 11 [(3, .null), (0, .ref 0), (1, .int _), (2, .int _)] [.int (-1)] _ _ _ _
    refine pm_e_ret pm_a42_11 rfl rfl rfl rfl rfl rfl rfl rfl ?_
    show pm_E _ _ _ 724 [(3, .int 0), (2, .ref 18), (1, .ref 0), (0, .retAddr 0)] [.int (-1)] _ _ _ _
    refine pm_e_sim pm_a0_724 rfl ?_
    show pm_E _ _ _ 725 [(3, .int 0), (2, .ref 18), (1, .ref 0), (0, .retAddr 0)] [.ref 18, .int (-1)] _ _ _ _
    refine pm_e_sim pm_a0_725 rfl ?_
    show pm_E _ _ _ 726 [(3, .int 0), (2, .ref 18), (1, .ref 0), (0, .retAddr 0)] [.retAddr 0, .ref 18, .int (-1)] _ _ _ _
    refine pm_e_sim pm_a0_726 rfl ?_
    show pm_E _ _ _ 727 [(3, .int 0), (2, .ref 18), (1, .ref 0), (0, .retAddr 0)] [.int 0, .retAddr 0, .ref 18, .int (-1)] _ _ _ _
    refine pm_e_sim pm_a0_727 rfl ?_
    refine pm_e_top (y := 1) (by decide +kernel) ?_
    show pm_E _ _ _ 728 [(3, .int 0), (2, .ref 18), (1, .ref 0), (0, .retAddr 0)] [.int 1, .int 0, .retAddr 0, .ref 18, .int (-1)] _ _ _ _
    refine pm_e_sim pm_a0_728 rfl ?_
    refine pm_e_top (y := 1) (by decide +kernel) ?_
    show pm_E _ _ _ 729 [(3, .int 0), (2, .ref 18), (1, .ref 0), (0, .retAddr 0)] [.int 1, .retAddr 0, .ref 18, .int (-1)] _ _ _ _
    refine pm_e_sld (j := 1) pm_a0_729 (by decide +kernel) ?_
    show pm_E _ _ _ 730 [(3, .int 0), (2, .ref 18), (1, .ref 0), (0, .retAddr 0)] [.int _, .ref 18, .int (-1)] _ _ _ _
    refine pm_e_sim pm_a0_730 rfl ?_
    show pm_E _ _ _ 731 [(3, .int 0), (2, .ref 18), (1, .ref 0), (0, .retAddr 0)] [.retAddr 0, .int _, .ref 18, .int (-1)] _ _ _ _
    refine pm_e_sim pm_a0_731 rfl ?_
    show pm_E _ _ _ 732 [(3, .int 0), (2, .ref 18), (1, .ref 0), (0, .retAddr 0)] [.int 0, .retAddr 0, .int _, .ref 18, .int (-1)] _ _ _ _
    refine pm_e_sim pm_a0_732 rfl ?_
    refine pm_e_top (y := 2) (by decide +kernel) ?_
    show pm_E _ _ _ 733 [(3, .int 0), (2, .ref 18), (1, .ref 0), (0, .retAddr 0)] [.int 2, .int 0, .retAddr 0, .int _, .ref 18, .int (-1)] _ _ _ _
    refine pm_e_sim pm_a0_733 rfl ?_
    refine pm_e_top (y := 2) (by decide +kernel) ?_
    show pm_E _ _ _ 734 [(3, .int 0), (2, .ref 18), (1, .ref 0), (0, .retAddr 0)] [.int 2, .retAddr 0, .int _, .ref 18, .int (-1)] _ _ _ _
    refine pm_e_sld (j := 2) pm_a0_734 (by decide +kernel) ?_
    show pm_E _ _ _ 735 [(3, .int 0), (2, .ref 18), (1, .ref 0), (0, .retAddr 0)] [.int _, .int _, .ref 18, .int (-1)] _ _ _ _
    refine pm_e_call (T2 := pm_mm77) pm_a0_735 rfl rfl rfl rfl rfl rfl rfl rfl rfl ?_
    show pm_E _ _ _ 0 [(0, .ref 18), (1, .int _), (2, .int _)] [] _ _ _ _
    refine pm_e_sim pm_a77_0 rfl ?_
    show pm_E _ _ _ 1 [(0, .ref 18), (1, .int _), (2, .int _)] [.ref 18] _ _ _ _
    refine pm_e_sim pm_a77_1 rfl ?_
    show pm_E _ _ _ 2 [(0, .ref 18), (1, .int _), (2, .int _)] [.int _, .ref 18] _ _ _ _
    refine pm_e_call (T2 := pm_mm61) pm_a77_2 rfl rfl rfl rfl rfl rfl rfl rfl rfl ?_
    show pm_E _ _ _ 0 [(0, .ref 18), (1, .int _)] [] _ _ _ _
    refine pm_e_sim pm_a61_0 rfl ?_
    show pm_E _ _ _ 1 [(0, .ref 18), (1, .int _)] [.int _] _ _ _ _
    refine pm_e_sim pm_a61_1 rfl ?_
    show pm_E _ _ _ 2 [(0, .ref 18), (1, .int _)] [.long _] _ _ _ _
    refine pm_e_sim pm_a61_2 rfl ?_
    show pm_E _ _ _ 3 [(0, .ref 18), (1, .int _)] [.long _, .long _] _ _ _ _
    refine pm_e_sim pm_a61_3 rfl ?_
    show pm_E _ _ _ 4 [(0, .ref 18), (1, .int _)] [.ref 18, .long _, .long _] _ _ _ _
    refine pm_e_rd pm_a61_4 rfl rfl rfl ?_
    show pm_E _ _ _ 7 [(0, .ref 18), (1, .int _)] [.int 0, .long _, .long _] _ _ _ _
    refine pm_e_sim pm_a61_7 rfl ?_
    refine pm_e_top (y := 1) (by decide +kernel) ?_
    show pm_E _ _ _ 8 [(0, .ref 18), (1, .int _)] [.int 1, .int 0, .long _, .long _] _ _ _ _
    refine pm_e_sim pm_a61_8 rfl ?_
    refine pm_e_top (y := (-1)) (by decide +kernel) ?_
    show pm_E _ _ _ 9 [(0, .ref 18), (1, .int _)] [.int (-1), .long _, .long _] _ _ _ _
    refine pm_e_sim pm_a61_9 rfl ?_
    show pm_E _ _ _ 10 [(0, .ref 18), (1, .int _)] [.long _, .long _, .long _] _ _ _ _
    refine pm_e_call (T2 := pm_mm50) pm_a61_10 rfl rfl rfl rfl rfl rfl rfl rfl rfl ?_
    show pm_E _ _ _ 0 [(0, .long _), (2, .long _), (4, .long _)] [] _ _ _ _
    refine pm_e_sim pm_a50_0 rfl ?_
    show pm_E _ _ _ 1 [(0, .long _), (2, .long _), (4, .long _)] [.long _] _ _ _ _
    refine pm_e_sim pm_a50_1 rfl ?_
    show pm_E _ _ _ 2 [(0, .long _), (2, .long _), (4, .long _)] [.long _, .long _] _ _ _ _
    refine pm_e_sim pm_a50_2 rfl ?_
    show pm_E _ _ _ 3 [(0, .long _), (2, .long _), (4, .long _)] [.int _] _ _ _ _
    refine pm_e_ift pm_a50_3 rfl (pm_zl_lt 0 (by decide +kernel) (by omega) (by decide +kernel)) ?_
    show pm_E _ _ _ 17 [(0, .long _), (2, .long _), (4, .long _)] [] _ _ _ _
    refine pm_e_sim pm_a50_17 rfl ?_
    refine pm_e_top (y := 0) (by decide +kernel) ?_
    show pm_E _ _ _ 18 [(0, .long _), (2, .long _), (4, .long _)] [.int 0] _ _ _ _
    refine pm_e_ret pm_a50_18 rfl rfl rfl rfl rfl rfl rfl rfl ?_
    show pm_E _ _ _ 13 [(0, .ref 18), (1, .int _)] [.int 0] _ _ _ _
    refine pm_e_ret pm_a61_13 rfl rfl rfl rfl rfl rfl rfl rfl ?_
    show pm_E _ _ _ 5 [(0, .ref 18), (1, .int _), (2, .int _)] [.int 0] _ _ _ _
    refine pm_e_ift pm_a77_5 rfl (by decide +kernel) ?_
    show pm_E _ _ _ 20 [(0, .ref 18), (1, .int _), (2, .int _)] [] _ _ _ _
    refine pm_e_sim pm_a77_20 rfl ?_
    refine pm_e_top (y := (-1)) (by decide +kernel) ?_
    show pm_E _ _ _ 21 [(0, .ref 18), (1, .int _), (2, .int _)] [.int (-1)] _ _ _ _
    refine pm_e_ret pm_a77_21 rfl rfl rfl rfl rfl rfl rfl rfl ?_
    show pm_E _ _ _ 738 [(3, .int 0), (2, .ref 18), (1, .ref 0), (0, .retAddr 0)] [.int (-1), .int (-1)] _ _ _ _
    refine pm_e_ict pm_a0_738 rfl (by decide +kernel) ?_
    show pm_E _ _ _ 779 [(3, .int 0), (2, .ref 18), (1, .ref 0), (0, .retAddr 0)] [] _ _ _ _
    refine pm_e_inc (y := 6) pm_a0_779 rfl (by decide +kernel) (by decide +kernel) rfl ?_
    show pm_E _ _ _ 782 [(3, .int 6), (2, .ref 18), (1, .ref 0), (0, .retAddr 0)] [] _ _ _ _
    refine pm_e_goto pm_a0_782 rfl ?_
    show pm_E _ _ _ 18 [(3, .int 6), (2, .ref 18), (1, .ref 0), (0, .retAddr 0)] [] _ _ _ _
    refine pm_e_sim pm_a0_18 rfl ?_
    show pm_E _ _ _ 19 [(3, .int 6), (2, .ref 18), (1, .ref 0), (0, .retAddr 0)] [.int 6] _ _ _ _
    refine pm_e_sim pm_a0_19 rfl ?_
    show pm_E _ _ _ 20 [(3, .int 6), (2, .ref 18), (1, .ref 0), (0, .retAddr 0)] [.retAddr 0, .int 6] _ _ _ _
    refine pm_e_rd pm_a0_20 rfl rfl rfl ?_
    dsimp only
    refine pm_e_top (y := 6) (by decide +kernel) ?_
    show pm_E _ _ _ 21 [(3, .int 6), (2, .ref 18), (1, .ref 0), (0, .retAddr 0)] [.int 6, .int 6] _ _ _ _
    refine pm_e_sim pm_a0_21 rfl ?_
    refine pm_e_top (y := 6) (by decide +kernel) ?_
    show pm_E _ _ _ 23 [(3, .int 6), (2, .ref 18), (1, .ref 0), (0, .retAddr 0)] [.int 6, .int 6, .int 6] _ _ _ _
    refine pm_e_sim pm_a0_23 rfl ?_
    refine pm_e_top (y := 0) (by decide +kernel) ?_
    show pm_E _ _ _ 24 [(3, .int 6), (2, .ref 18), (1, .ref 0), (0, .retAddr 0)] [.int 0, .int 6] _ _ _ _
    refine pm_e_ict pm_a0_24 rfl (by decide +kernel) ?_
    show pm_E _ _ _ 785 [(3, .int 6), (2, .ref 18), (1, .ref 0), (0, .retAddr 0)] [] _ _ _ _
    refine pm_e_sim pm_a0_785 rfl ?_
    refine pm_e_top (y := 1) (by decide +kernel) ?_
    show pm_E _ _ _ 786 [(3, .int 6), (2, .ref 18), (1, .ref 0), (0, .retAddr 0)] [.int 1] _ _ _ _
    refine pm_e_ret pm_a0_786 rfl rfl rfl rfl rfl rfl rfl rfl ?_
    exact hQ _ _ _ (by decide +kernel) (by decide +kernel)
  · refine pm_e_tsi (t := 710) pm_a0_33 rfl (by decide +kernel) ?_
    show pm_E _ _ _ 710 [(3, .int 0), (2, .ref 18), (1, .ref 0), (0, .retAddr 0)] [] _ _ _ _
    refine pm_e_sim pm_a0_710 rfl ?_
    show pm_E _ _ _ 711 [(3, .int 0), (2, .ref 18), (1, .ref 0), (0, .retAddr 0)] [.ref 0] _ _ _ _
    refine pm_e_sim pm_a0_711 rfl ?_
    show pm_E _ _ _ 712 [(3, .int 0), (2, .ref 18), (1, .ref 0), (0, .retAddr 0)] [.retAddr 0, .ref 0] _ _ _ _
    refine pm_e_sim pm_a0_712 rfl ?_
    show pm_E _ _ _ 713 [(3, .int 0), (2, .ref 18), (1, .ref 0), (0, .retAddr 0)] [.int 0, .retAddr 0, .ref 0] _ _ _ _
    refine pm_e_sim pm_a0_713 rfl ?_
    refine pm_e_top (y := 1) (by decide +kernel) ?_
    show pm_E _ _ _ 714 [(3, .int 0), (2, .ref 18), (1, .ref 0), (0, .retAddr 0)] [.int 1, .int 0, .retAddr 0, .ref 0] _ _ _ _
    refine pm_e_sim pm_a0_714 rfl ?_
    refine pm_e_top (y := 1) (by decide +kernel) ?_
    show pm_E _ _ _ 715 [(3, .int 0), (2, .ref 18), (1, .ref 0), (0, .retAddr 0)] [.int 1, .retAddr 0, .ref 0] _ _ _ _
    refine pm_e_sld (j := 1) pm_a0_715 (by decide +kernel) ?_
    show pm_E _ _ _ 716 [(3, .int 0), (2, .ref 18), (1, .ref 0), (0, .retAddr 0)] [.int _, .ref 0] _ _ _ _
    refine pm_e_sim pm_a0_716 rfl ?_
    show pm_E _ _ _ 717 [(3, .int 0), (2, .ref 18), (1, .ref 0), (0, .retAddr 0)] [.retAddr 0, .int _, .ref 0] _ _ _ _
    refine pm_e_sim pm_a0_717 rfl ?_
    show pm_E _ _ _ 718 [(3, .int 0), (2, .ref 18), (1, .ref 0), (0, .retAddr 0)] [.int 0, .retAddr 0, .int _, .ref 0] _ _ _ _
    refine pm_e_sim pm_a0_718 rfl ?_
    refine pm_e_top (y := 2) (by decide +kernel) ?_
    show pm_E _ _ _ 719 [(3, .int 0), (2, .ref 18), (1, .ref 0), (0, .retAddr 0)] [.int 2, .int 0, .retAddr 0, .int _, .ref 0] _ _ _ _
    refine pm_e_sim pm_a0_719 rfl ?_
    refine pm_e_top (y := 2) (by decide +kernel) ?_
    show pm_E _ _ _ 720 [(3, .int 0), (2, .ref 18), (1, .ref 0), (0, .retAddr 0)] [.int 2, .retAddr 0, .int _, .ref 0] _ _ _ _
    refine pm_e_sld (j := 2) pm_a0_720 (by decide +kernel) ?_
    show pm_E _ _ _ 721 [(3, .int 0), (2, .ref 18), (1, .ref 0), (0, .retAddr 0)] [.int _, .int _, .ref 0] _ _ _ _
    refine pm_e_call (T2 := pm_mm42) pm_a0_721 rfl rfl rfl rfl rfl rfl rfl rfl rfl ?_
    show pm_E _ _ _ 0 [(0, .ref 0), (1, .int _), (2, .int _)] [] _ _ _ _
    refine pm_e_sim pm_a42_0 rfl ?_
    show pm_E _ _ _ 1 [(0, .ref 0), (1, .int _), (2, .int _)] [.ref 0] _ _ _ _
    refine pm_e_sim pm_a42_1 rfl ?_
    show pm_E _ _ _ 2 [(0, .ref 0), (1, .int _), (2, .int _)] [.int _, .ref 0] _ _ _ _
    refine pm_e_call (T2 := pm_mm26) pm_a42_2 rfl rfl rfl rfl rfl rfl rfl rfl rfl ?_
    show pm_E _ _ _ 0 [(0, .ref 0), (1, .int _)] [] _ _ _ _
    refine pm_e_sim pm_a26_0 rfl ?_
    show pm_E _ _ _ 1 [(0, .ref 0), (1, .int _)] [.int _] _ _ _ _
    refine pm_e_iff pm_a26_1 rfl (pm_z_lt_f 0 (by decide +kernel) (by omega)) ?_
    show pm_E _ _ _ 4 [(0, .ref 0), (1, .int _)] [] _ _ _ _
    refine pm_e_sim pm_a26_4 rfl ?_
    show pm_E _ _ _ 5 [(0, .ref 0), (1, .int _)] [.int _] _ _ _ _
    refine pm_e_sim pm_a26_5 rfl ?_
    show pm_E _ _ _ 6 [(0, .ref 0), (1, .int _)] [.ref 0, .int _] _ _ _ _
    refine pm_e_rd pm_a26_6 rfl rfl rfl ?_
    show pm_E _ _ _ 9 [(0, .ref 0), (1, .int _)] [.int 0, .int _] _ _ _ _
    refine pm_e_ict pm_a26_9 rfl (pm_z_ge_t 0 (by decide +kernel) (by omega)) ?_
    show pm_E _ _ _ 30 [(0, .ref 0), (1, .int _)] [] _ _ _ _
    refine pm_e_sim pm_a26_30 rfl ?_
    show pm_E _ _ _ 31 [(0, .ref 0), (1, .int _)] [.null] _ _ _ _
    refine pm_e_ret pm_a26_31 rfl rfl rfl rfl rfl rfl rfl rfl ?_
    show pm_E _ _ _ 5 [(0, .ref 0), (1, .int _), (2, .int _)] [.null] _ _ _ _
    refine pm_e_sim pm_a42_5 rfl ?_
    show pm_E _ _ _ 6 [(3, .null), (0, .ref 0), (1, .int _), (2, .int _)] [] _ _ _ _
    refine pm_e_sim pm_a42_6 rfl ?_
    show pm_E _ _ _ 7 [(3, .null), (0, .ref 0), (1, .int _), (2, .int _)] [.null] _ _ _ _
    refine pm_e_jmp (pc2 := 10) pm_a42_7 rfl rfl ?_
    show pm_E _ _ _ 10 [(3, .null), (0, .ref 0), (1, .int _), (2, .int _)] [] _ _ _ _
    refine pm_e_sim pm_a42_10 rfl ?_
    refine pm_e_top (y := (-1)) (by decide +kernel) ?_
    show pm_E _ _ _ 11 [(3, .null), (0, .ref 0), (1, .int _), (2, .int _)] [.int (-1)] _ _ _ _
    refine pm_e_ret pm_a42_11 rfl rfl rfl rfl rfl rfl rfl rfl ?_
    show pm_E _ _ _ 724 [(3, .int 0), (2, .ref 18), (1, .ref 0), (0, .retAddr 0)] [.int (-1)] _ _ _ _
    refine pm_e_sim pm_a0_724 rfl ?_
    show pm_E _ _ _ 725 [(3, .int 0), (2, .ref 18), (1, .ref 0), (0, .retAddr 0)] [.ref 18, .int (-1)] _ _ _ _
    refine pm_e_sim pm_a0_725 rfl ?_
    show pm_E _ _ _ 726 [(3, .int 0), (2, .ref 18), (1, .ref 0), (0, .retAddr 0)] [.retAddr 0, .ref 18, .int (-1)] _ _ _ _
    refine pm_e_sim pm_a0_726 rfl ?_
    show pm_E _ _ _ 727 [(3, .int 0), (2, .ref 18), (1, .ref 0), (0, .retAddr 0)] [.int 0, .retAddr 0, .ref 18, .int (-1)] _ _ _ _
    refine pm_e_sim pm_a0_727 rfl ?_
    refine pm_e_top (y := 1) (by decide +kernel) ?_
    show pm_E _ _ _ 728 [(3, .int 0), (2, .ref 18), (1, .ref 0), (0, .retAddr 0)] [.int 1, .int 0, .retAddr 0, .ref 18, .int (-1)] _ _ _ _
    refine pm_e_sim pm_a0_728 rfl ?_
    refine pm_e_top (y := 1) (by decide +kernel) ?_
    show pm_E _ _ _ 729 [(3, .int 0), (2, .ref 18), (1, .ref 0), (0, .retAddr 0)] [.int 1, .retAddr 0, .ref 18, .int (-1)] _ _ _ _
    refine pm_e_sld (j := 1) pm_a0_729 (by decide +kernel) ?_
    show pm_E _ _ _ 730 [(3, .int 0), (2, .ref 18), (1, .ref 0), (0, .retAddr 0)] [.int _, .ref 18, .int (-1)] _ _ _ _
    refine pm_e_sim pm_a0_730 rfl ?_
    show pm_E _ _ _ 731 [(3, .int 0), (2, .ref 18), (1, .ref 0), (0, .retAddr 0)] [.retAddr 0, .int _, .ref 18, .int (-1)] _ _ _ _
    refine pm_e_sim pm_a0_731 rfl ?_
    show pm_E _ _ _ 732 [(3, .int 0), (2, .ref 18), (1, .ref 0), (0, .retAddr 0)] [.int 0, .retAddr 0, .int _, .ref 18, .int (-1)] _ _ _ _
    refine pm_e_sim pm_a0_732 rfl ?_
    refine pm_e_top (y := 2) (by decide +kernel) ?_
    show pm_E _ _ _ 733 [(3, .int 0), (2, .ref 18), (1, .ref 0), (0, .retAddr 0)] [.int 2, .int 0, .retAddr 0, .int _, .ref 18, .int (-1)] _ _ _ _
    refine pm_e_sim pm_a0_733 rfl ?_
    refine pm_e_top (y := 2) (by decide +kernel) ?_
    show pm_E _ _ _ 734 [(3, .int 0), (2, .ref 18), (1, .ref 0), (0, .retAddr 0)] [.int 2, .retAddr 0, .int _, .ref 18, .int (-1)] _ _ _ _
    refine pm_e_sld (j := 2) pm_a0_734 (by decide +kernel) ?_
    show pm_E _ _ _ 735 [(3, .int 0), (2, .ref 18), (1, .ref 0), (0, .retAddr 0)] [.int _, .int _, .ref 18, .int (-1)] _ _ _ _
    refine pm_e_call (T2 := pm_mm77) pm_a0_735 rfl rfl rfl rfl rfl rfl rfl rfl rfl ?_
    show pm_E _ _ _ 0 [(0, .ref 18), (1, .int _), (2, .int _)] [] _ _ _ _
    refine pm_e_sim pm_a77_0 rfl ?_
    show pm_E _ _ _ 1 [(0, .ref 18), (1, .int _), (2, .int _)] [.ref 18] _ _ _ _
    refine pm_e_sim pm_a77_1 rfl ?_
    show pm_E _ _ _ 2 [(0, .ref 18), (1, .int _), (2, .int _)] [.int _, .ref 18] _ _ _ _
    refine pm_e_call (T2 := pm_mm61) pm_a77_2 rfl rfl rfl rfl rfl rfl rfl rfl rfl ?_
    show pm_E _ _ _ 0 [(0, .ref 18), (1, .int _)] [] _ _ _ _
    refine pm_e_sim pm_a61_0 rfl ?_
    show pm_E _ _ _ 1 [(0, .ref 18), (1, .int _)] [.int _] _ _ _ _
    refine pm_e_sim pm_a61_1 rfl ?_
    show pm_E _ _ _ 2 [(0, .ref 18), (1, .int _)] [.long _] _ _ _ _
    refine pm_e_sim pm_a61_2 rfl ?_
    show pm_E _ _ _ 3 [(0, .ref 18), (1, .int _)] [.long _, .long _] _ _ _ _
    refine pm_e_sim pm_a61_3 rfl ?_
    show pm_E _ _ _ 4 [(0, .ref 18), (1, .int _)] [.ref 18, .long _, .long _] _ _ _ _
    refine pm_e_rd pm_a61_4 rfl rfl rfl ?_
    show pm_E _ _ _ 7 [(0, .ref 18), (1, .int _)] [.int 0, .long _, .long _] _ _ _ _
    refine pm_e_sim pm_a61_7 rfl ?_
    refine pm_e_top (y := 1) (by decide +kernel) ?_
    show pm_E _ _ _ 8 [(0, .ref 18), (1, .int _)] [.int 1, .int 0, .long _, .long _] _ _ _ _
    refine pm_e_sim pm_a61_8 rfl ?_
    refine pm_e_top (y := (-1)) (by decide +kernel) ?_
    show pm_E _ _ _ 9 [(0, .ref 18), (1, .int _)] [.int (-1), .long _, .long _] _ _ _ _
    refine pm_e_sim pm_a61_9 rfl ?_
    show pm_E _ _ _ 10 [(0, .ref 18), (1, .int _)] [.long _, .long _, .long _] _ _ _ _
    refine pm_e_call (T2 := pm_mm50) pm_a61_10 rfl rfl rfl rfl rfl rfl rfl rfl rfl ?_
    show pm_E _ _ _ 0 [(0, .long _), (2, .long _), (4, .long _)] [] _ _ _ _
    refine pm_e_sim pm_a50_0 rfl ?_
    show pm_E _ _ _ 1 [(0, .long _), (2, .long _), (4, .long _)] [.long _] _ _ _ _
    refine pm_e_sim pm_a50_1 rfl ?_
    show pm_E _ _ _ 2 [(0, .long _), (2, .long _), (4, .long _)] [.long _, .long _] _ _ _ _
    refine pm_e_sim pm_a50_2 rfl ?_
    show pm_E _ _ _ 3 [(0, .long _), (2, .long _), (4, .long _)] [.int _] _ _ _ _
    refine pm_e_iff pm_a50_3 rfl (pm_zl_eq 0 (by decide +kernel) (by omega) (by decide +kernel)) ?_
    show pm_E _ _ _ 6 [(0, .long _), (2, .long _), (4, .long _)] [] _ _ _ _
    refine pm_e_sim pm_a50_6 rfl ?_
    show pm_E _ _ _ 7 [(0, .long _), (2, .long _), (4, .long _)] [.long _] _ _ _ _
    refine pm_e_sim pm_a50_7 rfl ?_
    show pm_E _ _ _ 9 [(0, .long _), (2, .long _), (4, .long _)] [.long _, .long _] _ _ _ _
    refine pm_e_sim pm_a50_9 rfl ?_
    show pm_E _ _ _ 10 [(0, .long _), (2, .long _), (4, .long _)] [.int _] _ _ _ _
    refine pm_e_ift pm_a50_10 rfl (pm_zl_gt (-1) (by decide +kernel) (by omega) (by decide +kernel)) ?_
    show pm_E _ _ _ 17 [(0, .long _), (2, .long _), (4, .long _)] [] _ _ _ _
    refine pm_e_sim pm_a50_17 rfl ?_
    refine pm_e_top (y := 0) (by decide +kernel) ?_
    show pm_E _ _ _ 18 [(0, .long _), (2, .long _), (4, .long _)] [.int 0] _ _ _ _
    refine pm_e_ret pm_a50_18 rfl rfl rfl rfl rfl rfl rfl rfl ?_
    show pm_E _ _ _ 13 [(0, .ref 18), (1, .int _)] [.int 0] _ _ _ _
    refine pm_e_ret pm_a61_13 rfl rfl rfl rfl rfl rfl rfl rfl ?_
    show pm_E _ _ _ 5 [(0, .ref 18), (1, .int _), (2, .int _)] [.int 0] _ _ _ _
    refine pm_e_ift pm_a77_5 rfl (by decide +kernel) ?_
    show pm_E _ _ _ 20 [(0, .ref 18), (1, .int _), (2, .int _)] [] _ _ _ _
    refine pm_e_sim pm_a77_20 rfl ?_
    refine pm_e_top (y := (-1)) (by decide +kernel) ?_
    show pm_E _ _ _ 21 [(0, .ref 18), (1, .int _), (2, .int _)] [.int (-1)] _ _ _ _
    refine pm_e_ret pm_a77_21 rfl rfl rfl rfl rfl rfl rfl rfl ?_
    show pm_E _ _ _ 738 [(3, .int 0), (2, .ref 18), (1, .ref 0), (0, .retAddr 0)] [.int (-1), .int (-1)] _ _ _ _
    refine pm_e_ict pm_a0_738 rfl (by decide +kernel) ?_
    show pm_E _ _ _ 779 [(3, .int 0), (2, .ref 18), (1, .ref 0), (0, .retAddr 0)] [] _ _ _ _
    refine pm_e_inc (y := 6) pm_a0_779 rfl (by decide +kernel) (by decide +kernel) rfl ?_
    show pm_E _ _ _ 782 [(3, .int 6), (2, .ref 18), (1, .ref 0), (0, .retAddr 0)] [] _ _ _ _
    refine pm_e_goto pm_a0_782 rfl ?_
    show pm_E _ _ _ 18 [(3, .int 6), (2, .ref 18), (1, .ref 0), (0, .retAddr 0)] [] _ _ _ _
    refine pm_e_sim pm_a0_18 rfl ?_
    show pm_E _ _ _ 19 [(3, .int 6), (2, .ref 18), (1, .ref 0), (0, .retAddr 0)] [.int 6] _ _ _ _
    refine pm_e_sim pm_a0_19 rfl ?_
    show pm_E _ _ _ 20 [(3, .int 6), (2, .ref 18), (1, .ref 0), (0, .retAddr 0)] [.retAddr 0, .int 6] _ _ _ _
    refine pm_e_rd pm_a0_20 rfl rfl rfl ?_
    dsimp only
    refine pm_e_top (y := 6) (by decide +kernel) ?_
    show pm_E _ _ _ 21 [(3, .int 6), (2, .ref 18), (1, .ref 0), (0, .retAddr 0)] [.int 6, .int 6] _ _ _ _
    refine pm_e_sim pm_a0_21 rfl ?_
    refine pm_e_top (y := 6) (by decide +kernel) ?_
    show pm_E _ _ _ 23 [(3, .int 6), (2, .ref 18), (1, .ref 0), (0, .retAddr 0)] [.int 6, .int 6, .int 6] _ _ _ _
    refine pm_e_sim pm_a0_23 rfl ?_
    refine pm_e_top (y := 0) (by decide +kernel) ?_
    show pm_E _ _ _ 24 [(3, .int 6), (2, .ref 18), (1, .ref 0), (0, .retAddr 0)] [.int 0, .int 6] _ _ _ _
    refine pm_e_ict pm_a0_24 rfl (by decide +kernel) ?_
    show pm_E _ _ _ 785 [(3, .int 6), (2, .ref 18), (1, .ref 0), (0, .retAddr 0)] [] _ _ _ _
    refine pm_e_sim pm_a0_785 rfl ?_
    refine pm_e_top (y := 1) (by decide +kernel) ?_
    show pm_E _ _ _ 786 [(3, .int 6), (2, .ref 18), (1, .ref 0), (0, .retAddr 0)] [.int 1] _ _ _ _
    refine pm_e_ret pm_a0_786 rfl rfl rfl rfl rfl rfl rfl rfl ?_
    exact hQ _ _ _ (by decide +kernel) (by decide +kernel)
  · refine pm_e_tsi (t := 710) pm_a0_33 rfl (by decide +kernel) ?_
    show pm_E _ _ _ 710 [(3, .int 0), (2, .ref 18), (1, .ref 0), (0, .retAddr 0)] [] _ _ _ _
    refine pm_e_sim pm_a0_710 rfl ?_
    show pm_E _ _ _ 711 [(3, .int 0), (2, .ref 18), (1, .ref 0), (0, .retAddr 0)] [.ref 0] _ _ _ _
    refine pm_e_sim pm_a0_711 rfl ?_
    show pm_E _ _ _ 712 [(3, .int 0), (2, .ref 18), (1, .ref 0), (0, .retAddr 0)] [.retAddr 0, .ref 0] _ _ _ _
    refine pm_e_sim pm_a0_712 rfl ?_
    show pm_E _ _ _ 713 [(3, .int 0), (2, .ref 18), (1, .ref 0), (0, .retAddr 0)] [.int 0, .retAddr 0, .ref 0] _ _ _ _
    refine pm_e_sim pm_a0_713 rfl ?_
    refine pm_e_top (y := 1) (by decide +kernel) ?_
    show pm_E _ _ _ 714 [(3, .int 0), (2, .ref 18), (1, .ref 0), (0, .retAddr 0)] [.int 1, .int 0, .retAddr 0, .ref 0] _ _ _ _
    refine pm_e_sim pm_a0_714 rfl ?_
    refine pm_e_top (y := 1) (by decide +kernel) ?_
    show pm_E _ _ _ 715 [(3, .int 0), (2, .ref 18), (1, .ref 0), (0, .retAddr 0)] [.int 1, .retAddr 0, .ref 0] _ _ _ _
    refine pm_e_sld (j := 1) pm_a0_715 (by decide +kernel) ?_
    show pm_E _ _ _ 716 [(3, .int 0), (2, .ref 18), (1, .ref 0), (0, .retAddr 0)] [.int _, .ref 0] _ _ _ _
    refine pm_e_sim pm_a0_716 rfl ?_
    show pm_E _ _ _ 717 [(3, .int 0), (2, .ref 18), (1, .ref 0), (0, .retAddr 0)] [.retAddr 0, .int _, .ref 0] _ _ _ _
    refine pm_e_sim pm_a0_717 rfl ?_
    show pm_E _ _ _ 718 [(3, .int 0), (2, .ref 18), (1, .ref 0), (0, .retAddr 0)] [.int 0, .retAddr 0, .int _, .ref 0] _ _ _ _
    refine pm_e_sim pm_a0_718 rfl ?_
    refine pm_e_top (y := 2) (by decide +kernel) ?_
    show pm_E _ _ _ 719 [(3, .int 0), (2, .ref 18), (1, .ref 0), (0, .retAddr 0)] [.int 2, .int 0, .retAddr 0, .int _, .ref 0] _ _ _ _
    refine pm_e_sim pm_a0_719 rfl ?_
    refine pm_e_top (y := 2) (by decide +kernel) ?_
    show pm_E _ _ _ 720 [(3, .int 0), (2, .ref 18), (1, .ref 0), (0, .retAddr 0)] [.int 2, .retAddr 0, .int _, .ref 0] _ _ _ _
    refine pm_e_sld (j := 2) pm_a0_720 (by decide +kernel) ?_
    show pm_E _ _ _ 721 [(3, .int 0), (2, .ref 18), (1, .ref 0), (0, .retAddr 0)] [.int _, .int _, .ref 0] _ _ _ _
    refine pm_e_call (T2 := pm_mm42) pm_a0_721 rfl rfl rfl rfl rfl rfl rfl rfl rfl ?_
    show pm_E _ _ _ 0 [(0, .ref 0), (1, .int _), (2, .int _)] [] _ _ _ _
    refine pm_e_sim pm_a42_0 rfl ?_
    show pm_E _ _ _ 1 [(0, .ref 0), (1, .int _), (2, .int _)] [.ref 0] _ _ _ _
    refine pm_e_sim pm_a42_1 rfl ?_
    show pm_E _ _ _ 2 [(0, .ref 0), (1, .int _), (2, .int _)] [.int _, .ref 0] _ _ _ _
    refine pm_e_call (T2 := pm_mm26) pm_a42_2 rfl rfl rfl rfl rfl rfl rfl rfl rfl ?_
    show pm_E _ _ _ 0 [(0, .ref 0), (1, .int _)] [] _ _ _ _
    refine pm_e_sim pm_a26_0 rfl ?_
    show pm_E _ _ _ 1 [(0, .ref 0), (1, .int _)] [.int _] _ _ _ _
    refine pm_e_iff pm_a26_1 rfl (pm_z_lt_f 0 (by decide +kernel) (by omega)) ?_
    show pm_E _ _ _ 4 [(0, .ref 0), (1, .int _)] [] _ _ _ _
    refine pm_e_sim pm_a26_4 rfl ?_
    show pm_E _ _ _ 5 [(0, .ref 0), (1, .int _)] [.int _] _ _ _ _
    refine pm_e_sim pm_a26_5 rfl ?_
    show pm_E _ _ _ 6 [(0, .ref 0), (1, .int _)] [.ref 0, .int _] _ _ _ _
    refine pm_e_rd pm_a26_6 rfl rfl rfl ?_
    show pm_E _ _ _ 9 [(0, .ref 0), (1, .int _)] [.int 0, .int _] _ _ _ _
    refine pm_e_ict pm_a26_9 rfl (pm_z_ge_t 0 (by decide +kernel) (by omega)) ?_
    show pm_E _ _ _ 30 [(0, .ref 0), (1, .int _)] [] _ _ _ _
    refine pm_e_sim pm_a26_30 rfl ?_
    show pm_E _ _ _ 31 [(0, .ref 0), (1, .int _)] [.null] _ _ _ _
    refine pm_e_ret pm_a26_31 rfl rfl rfl rfl rfl rfl rfl rfl ?_
    show pm_E _ _ _ 5 [(0, .ref 0), (1, .int _), (2, .int _)] [.null] _ _ _ _
    refine pm_e_sim pm_a42_5 rfl ?_
    show pm_E _ _ _ 6 [(3, .null), (0, .ref 0), (1, .int _), (2, .int _)] [] _ _ _ _
    refine pm_e_sim pm_a42_6 rfl ?_
    show pm_E _ _ _ 7 [(3, .null), (0, .ref 0), (1, .int _), (2, .int _)] [.null] _ _ _ _
    refine pm_e_jmp (pc2 := 10) pm_a42_7 rfl rfl ?_
    show pm_E _ _ _ 10 [(3, .null), (0, .ref 0), (1, .int _), (2, .int _)] [] _ _ _ _
    refine pm_e_sim pm_a42_10 rfl ?_
    refine pm_e_top (y := (-1)) (by decide +kernel) ?_
    show pm_E _ _ _ 11 [(3, .null), (0, .ref 0), (1, .int _), (2, .int _)] [.int (-1)] _ _ _ _
    refine pm_e_ret pm_a42_11 rfl rfl rfl rfl rfl rfl rfl rfl ?_
    show pm_E _ _ _ 724 [(3, .int 0), (2, .ref 18), (1, .ref 0), (0, .retAddr 0)] [.int (-1)] _ _ _ _
    refine pm_e_sim pm_a0_724 rfl ?_
    show pm_E _ _ _ 725 [(3, .int 0), (2, .ref 18), (1, .ref 0), (0, .retAddr 0)] [.ref 18, .int (-1)] _ _ _ _
    refine pm_e_sim pm_a0_725 rfl ?_
    show pm_E _ _ _ 726 [(3, .int 0), (2, .ref 18), (1, .ref 0), (0, .retAddr 0)] [.retAddr 0, .ref 18, .int (-1)] _ _ _ _
    refine pm_e_sim pm_a0_726 rfl ?_
    show pm_E _ _ _ 727 [(3, .int 0), (2, .ref 18), (1, .ref 0), (0, .retAddr 0)] [.int 0, .retAddr 0, .ref 18, .int (-1)] _ _ _ _
    refine pm_e_sim pm_a0_727 rfl ?_
    refine pm_e_top (y := 1) (by decide +kernel) ?_
    show pm_E _ _ _ 728 [(3, .int 0), (2, .ref 18), (1, .ref 0), (0, .retAddr 0)] [.int 1, .int 0, .retAddr 0, .ref 18, .int (-1)] _ _ _ _
    refine pm_e_sim pm_a0_728 rfl ?_
    refine pm_e_top (y := 1) (by decide +kernel) ?_
    show pm_E _ _ _ 729 [(3, .int 0), (2, .ref 18), (1, .ref 0), (0, .retAddr 0)] [.int 1, .retAddr 0, .ref 18, .int (-1)] _ _ _ _
    refine pm_e_sld (j := 1) pm_a0_729 (by decide +kernel) ?_
    show pm_E _ _ _ 730 [(3, .int 0), (2, .ref 18), (1, .ref 0), (0, .retAddr 0)] [.int _, .ref 18, .int (-1)] _ _ _ _
    refine pm_e_sim pm_a0_730 rfl ?_
    show pm_E _ _ _ 731 [(3, .int 0), (2, .ref 18), (1, .ref 0), (0, .retAddr 0)] [.retAddr 0, .int _, .ref 18, .int (-1)] _ _ _ _
    refine pm_e_sim pm_a0_731 rfl ?_
    show pm_E _ _ _ 732 [(3, .int 0), (2, .ref 18), (1, .ref 0), (0, .retAddr 0)] [.int 0, .retAddr 0, .int _, .ref 18, .int (-1)] _ _ _ _
    refine pm_e_sim pm_a0_732 rfl ?_
    refine pm_e_top (y := 2) (by decide +kernel) ?_
    show pm_E _ _ _ 733 [(3, .int 0), (2, .ref 18), (1, .ref 0), (0, .retAddr 0)] [.int 2, .int 0, .retAddr 0, .int _, .ref 18, .int (-1)] _ _ _ _
    refine pm_e_sim pm_a0_733 rfl ?_
    refine pm_e_top (y := 2) (by decide +kernel) ?_
    show pm_E _ _ _ 734 [(3, .int 0), (2, .ref 18), (1, .ref 0), (0, .retAddr 0)] [.int 2, .retAddr 0, .int _, .ref 18, .int (-1)] _ _ _ _
    refine pm_e_sld (j := 2) pm_a0_734 (by decide +kernel) ?_
    show pm_E _ _ _ 735 [(3, .int 0), (2, .ref 18), (1, .ref 0), (0, .retAddr 0)] [.int _, .int _, .ref 18, .int (-1)] _ _ _ _
    refine pm_e_call (T2 := pm_mm77) pm_a0_735 rfl rfl rfl rfl rfl rfl rfl rfl rfl ?_
    show pm_E _ _ _ 0 [(0, .ref 18), (1, .int _), (2, .int _)] [] _ _ _ _
    refine pm_e_sim pm_a77_0 rfl ?_
    show pm_E _ _ _ 1 [(0, .ref 18), (1, .int _), (2, .int _)] [.ref 18] _ _ _ _
    refine pm_e_sim pm_a77_1 rfl ?_
    show pm_E _ _ _ 2 [(0, .ref 18), (1, .int _), (2, .int _)] [.int _, .ref 18] _ _ _ _
    refine pm_e_call (T2 := pm_mm61) pm_a77_2 rfl rfl rfl rfl rfl rfl rfl rfl rfl ?_
    show pm_E _ _ _ 0 [(0, .ref 18), (1, .int _)] [] _ _ _ _
    refine pm_e_sim pm_a61_0 rfl ?_
    show pm_E _ _ _ 1 [(0, .ref 18), (1, .int _)] [.int _] _ _ _ _
    refine pm_e_sim pm_a61_1 rfl ?_
    show pm_E _ _ _ 2 [(0, .ref 18), (1, .int _)] [.long _] _ _ _ _
    refine pm_e_sim pm_a61_2 rfl ?_
    show pm_E _ _ _ 3 [(0, .ref 18), (1, .int _)] [.long _, .long _] _ _ _ _
    refine pm_e_sim pm_a61_3 rfl ?_
    show pm_E _ _ _ 4 [(0, .ref 18), (1, .int _)] [.ref 18, .long _, .long _] _ _ _ _
    refine pm_e_rd pm_a61_4 rfl rfl rfl ?_
    show pm_E _ _ _ 7 [(0, .ref 18), (1, .int _)] [.int 0, .long _, .long _] _ _ _ _
    refine pm_e_sim pm_a61_7 rfl ?_
    refine pm_e_top (y := 1) (by decide +kernel) ?_
    show pm_E _ _ _ 8 [(0, .ref 18), (1, .int _)] [.int 1, .int 0, .long _, .long _] _ _ _ _
    refine pm_e_sim pm_a61_8 rfl ?_
    refine pm_e_top (y := (-1)) (by decide +kernel) ?_
    show pm_E _ _ _ 9 [(0, .ref 18), (1, .int _)] [.int (-1), .long _, .long _] _ _ _ _
    refine pm_e_sim pm_a61_9 rfl ?_
    show pm_E _ _ _ 10 [(0, .ref 18), (1, .int _)] [.long _, .long _, .long _] _ _ _ _
    refine pm_e_call (T2 := pm_mm50) pm_a61_10 rfl rfl rfl rfl rfl rfl rfl rfl rfl ?_
    show pm_E _ _ _ 0 [(0, .long _), (2, .long _), (4, .long _)] [] _ _ _ _
    refine pm_e_sim pm_a50_0 rfl ?_
    show pm_E _ _ _ 1 [(0, .long _), (2, .long _), (4, .long _)] [.long _] _ _ _ _
    refine pm_e_sim pm_a50_1 rfl ?_
    show pm_E _ _ _ 2 [(0, .long _), (2, .long _), (4, .long _)] [.long _, .long _] _ _ _ _
    refine pm_e_sim pm_a50_2 rfl ?_
    show pm_E _ _ _ 3 [(0, .long _), (2, .long _), (4, .long _)] [.int _] _ _ _ _
    refine pm_e_iff pm_a50_3 rfl (pm_zl_gt 0 (by decide +kernel) (by omega) (by decide +kernel)) ?_
    show pm_E _ _ _ 6 [(0, .long _), (2, .long _), (4, .long _)] [] _ _ _ _
    refine pm_e_sim pm_a50_6 rfl ?_
    show pm_E _ _ _ 7 [(0, .long _), (2, .long _), (4, .long _)] [.long _] _ _ _ _
    refine pm_e_sim pm_a50_7 rfl ?_
    show pm_E _ _ _ 9 [(0, .long _), (2, .long _), (4, .long _)] [.long _, .long _] _ _ _ _
    refine pm_e_sim pm_a50_9 rfl ?_
    show pm_E _ _ _ 10 [(0, .long _), (2, .long _), (4, .long _)] [.int _] _ _ _ _
    refine pm_e_ift pm_a50_10 rfl (pm_zl_gt (-1) (by decide +kernel) (by omega) (by decide +kernel)) ?_
    show pm_E _ _ _ 17 [(0, .long _), (2, .long _), (4, .long _)] [] _ _ _ _
    refine pm_e_sim pm_a50_17 rfl ?_
    refine pm_e_top (y := 0) (by decide +kernel) ?_
    show pm_E _ _ _ 18 [(0, .long _), (2, .long _), (4, .long _)] [.int 0] _ _ _ _
    refine pm_e_ret pm_a50_18 rfl rfl rfl rfl rfl rfl rfl rfl ?_
    show pm_E _ _ _ 13 [(0, .ref 18), (1, .int _)] [.int 0] _ _ _ _
    refine pm_e_ret pm_a61_13 rfl rfl rfl rfl rfl rfl rfl rfl ?_
    show pm_E _ _ _ 5 [(0, .ref 18), (1, .int _), (2, .int _)] [.int 0] _ _ _ _
    refine pm_e_ift pm_a77_5 rfl (by decide +kernel) ?_
    show pm_E _ _ _ 20 [(0, .ref 18), (1, .int _), (2, .int _)] [] _ _ _ _
    refine pm_e_sim pm_a77_20 rfl ?_
    refine pm_e_top (y := (-1)) (by decide +kernel) ?_
    show pm_E _ _ _ 21 [(0, .ref 18), (1, .int _), (2, .int _)] [.int (-1)] _ _ _ _
    refine pm_e_ret pm_a77_21 rfl rfl rfl rfl rfl rfl rfl rfl ?_
    show pm_E _ _ _ 738 [(3, .int 0), (2, .ref 18), (1, .ref 0), (0, .retAddr 0)] [.int (-1), .int (-1)] _ _ _ _
    refine pm_e_ict pm_a0_738 rfl (by decide +kernel) ?_
    show pm_E _ _ _ 779 [(3, .int 0), (2, .ref 18), (1, .ref 0), (0, .retAddr 0)] [] _ _ _ _
    refine pm_e_inc (y := 6) pm_a0_779 rfl (by decide +kernel) (by decide +kernel) rfl ?_
    show pm_E _ _ _ 782 [(3, .int 6), (2, .ref 18), (1, .ref 0), (0, .retAddr 0)] [] _ _ _ _
    refine pm_e_goto pm_a0_782 rfl ?_
    show pm_E _ _ _ 18 [(3, .int 6), (2, .ref 18), (1, .ref 0), (0, .retAddr 0)] [] _ _ _ _
    refine pm_e_sim pm_a0_18 rfl ?_
    show pm_E _ _ _ 19 [(3, .int 6), (2, .ref 18), (1, .ref 0), (0, .retAddr 0)] [.int 6] _ _ _ _
    refine pm_e_sim pm_a0_19 rfl ?_
    show pm_E _ _ _ 20 [(3, .int 6), (2, .ref 18), (1, .ref 0), (0, .retAddr 0)] [.retAddr 0, .int 6] _ _ _ _
    refine pm_e_rd pm_a0_20 rfl rfl rfl ?_
    dsimp only
    refine pm_e_top (y := 6) (by decide +kernel) ?_
    show pm_E _ _ _ 21 [(3, .int 6), (2, .ref 18), (1, .ref 0), (0, .retAddr 0)] [.int 6, .int 6] _ _ _ _
    refine pm_e_sim pm_a0_21 rfl ?_
    refine pm_e_top (y := 6) (by decide +kernel) ?_
    show pm_E _ _ _ 23 [(3, .int 6), (2, .ref 18), (1, .ref 0), (0, .retAddr 0)] [.int 6, .int 6, .int 6] _ _ _ _
    refine pm_e_sim pm_a0_23 rfl ?_
    refine pm_e_top (y := 0) (by decide +kernel) ?_
    show pm_E _ _ _ 24 [(3, .int 6), (2, .ref 18), (1, .ref 0), (0, .retAddr 0)] [.int 0, .int 6] _ _ _ _
    refine pm_e_ict pm_a0_24 rfl (by decide +kernel) ?_
    show pm_E _ _ _ 785 [(3, .int 6), (2, .ref 18), (1, .ref 0), (0, .retAddr 0)] [] _ _ _ _
    refine pm_e_sim pm_a0_785 rfl ?_
    refine pm_e_top (y := 1) (by decide +kernel) ?_
    show pm_E _ _ _ 786 [(3, .int 6), (2, .ref 18), (1, .ref 0), (0, .retAddr 0)] [.int 1] _ _ _ _
    refine pm_e_ret pm_a0_786 rfl rfl rfl rfl rfl rfl rfl rfl ?_
    exact hQ _ _ _ (by decide +kernel) (by decide +kernel)
set_option maxHeartbeats 40000000 in
set_option maxRecDepth 200000 in
theorem pm_op21 (xs : Nat → Int32) {Q : Option Value → List va_E → Nat → Nat → Prop} (hQ : ∀ ph c n, c ≤ 600000 → n ≤ 7302250 → Q (some (.int 1)) ph c n) : pm_E (some (6, xs)) 11 pm_mm0 33 pm_L0 [.int (nI 21)] pm_H0 50 194358 Q := by
  refine pm_e_top (y := 21) (by decide +kernel) ?_
  refine pm_e_tsi (t := 743) pm_a0_33 rfl (by decide +kernel) ?_
  show pm_E _ _ _ 743 [(3, .int 0), (2, .ref 18), (1, .ref 0), (0, .retAddr 0)] [] _ _ _ _
  refine pm_e_sim pm_a0_743 rfl ?_
  show pm_E _ _ _ 744 [(3, .int 0), (2, .ref 18), (1, .ref 0), (0, .retAddr 0)] [.ref 0] _ _ _ _
  refine pm_e_call (T2 := pm_mm43) pm_a0_744 rfl rfl rfl rfl rfl rfl rfl rfl rfl ?_
  show pm_E _ _ _ 0 [(0, .ref 0)] [] _ _ _ _
  refine pm_e_sim pm_a43_0 rfl ?_
  show pm_E _ _ _ 1 [(0, .ref 0)] [.ref 0] _ _ _ _
  refine pm_e_rd pm_a43_1 rfl rfl rfl ?_
  show pm_E _ _ _ 4 [(0, .ref 0)] [.int 0] _ _ _ _
  refine pm_e_iff pm_a43_4 rfl (by decide +kernel) ?_
  show pm_E _ _ _ 7 [(0, .ref 0)] [] _ _ _ _
  refine pm_e_sim pm_a43_7 rfl ?_
  refine pm_e_top (y := (-4)) (by decide +kernel) ?_
  show pm_E _ _ _ 9 [(0, .ref 0)] [.int (-4)] _ _ _ _
  refine pm_e_ret pm_a43_9 rfl rfl rfl rfl rfl rfl rfl rfl ?_
  show pm_E _ _ _ 747 [(3, .int 0), (2, .ref 18), (1, .ref 0), (0, .retAddr 0)] [.int (-4)] _ _ _ _
  refine pm_e_sim pm_a0_747 rfl ?_
  show pm_E _ _ _ 748 [(3, .int 0), (2, .ref 18), (1, .ref 0), (0, .retAddr 0)] [.ref 18, .int (-4)] _ _ _ _
  refine pm_e_call (T2 := pm_mm78) pm_a0_748 rfl rfl rfl rfl rfl rfl rfl rfl rfl ?_
  show pm_E _ _ _ 0 [(0, .ref 18)] [] _ _ _ _
  refine pm_e_sim pm_a78_0 rfl ?_
  show pm_E _ _ _ 1 [(0, .ref 18)] [.ref 18] _ _ _ _
  refine pm_e_rd pm_a78_1 rfl rfl rfl ?_
  show pm_E _ _ _ 4 [(0, .ref 18)] [.int 0] _ _ _ _
  refine pm_e_iff pm_a78_4 rfl (by decide +kernel) ?_
  show pm_E _ _ _ 7 [(0, .ref 18)] [] _ _ _ _
  refine pm_e_sim pm_a78_7 rfl ?_
  refine pm_e_top (y := (-4)) (by decide +kernel) ?_
  show pm_E _ _ _ 9 [(0, .ref 18)] [.int (-4)] _ _ _ _
  refine pm_e_ret pm_a78_9 rfl rfl rfl rfl rfl rfl rfl rfl ?_
  show pm_E _ _ _ 751 [(3, .int 0), (2, .ref 18), (1, .ref 0), (0, .retAddr 0)] [.int (-4), .int (-4)] _ _ _ _
  refine pm_e_ict pm_a0_751 rfl (by decide +kernel) ?_
  show pm_E _ _ _ 779 [(3, .int 0), (2, .ref 18), (1, .ref 0), (0, .retAddr 0)] [] _ _ _ _
  refine pm_e_inc (y := 6) pm_a0_779 rfl (by decide +kernel) (by decide +kernel) rfl ?_
  show pm_E _ _ _ 782 [(3, .int 6), (2, .ref 18), (1, .ref 0), (0, .retAddr 0)] [] _ _ _ _
  refine pm_e_goto pm_a0_782 rfl ?_
  show pm_E _ _ _ 18 [(3, .int 6), (2, .ref 18), (1, .ref 0), (0, .retAddr 0)] [] _ _ _ _
  refine pm_e_sim pm_a0_18 rfl ?_
  show pm_E _ _ _ 19 [(3, .int 6), (2, .ref 18), (1, .ref 0), (0, .retAddr 0)] [.int 6] _ _ _ _
  refine pm_e_sim pm_a0_19 rfl ?_
  show pm_E _ _ _ 20 [(3, .int 6), (2, .ref 18), (1, .ref 0), (0, .retAddr 0)] [.retAddr 0, .int 6] _ _ _ _
  refine pm_e_rd pm_a0_20 rfl rfl rfl ?_
  dsimp only
  refine pm_e_top (y := 6) (by decide +kernel) ?_
  show pm_E _ _ _ 21 [(3, .int 6), (2, .ref 18), (1, .ref 0), (0, .retAddr 0)] [.int 6, .int 6] _ _ _ _
  refine pm_e_sim pm_a0_21 rfl ?_
  refine pm_e_top (y := 6) (by decide +kernel) ?_
  show pm_E _ _ _ 23 [(3, .int 6), (2, .ref 18), (1, .ref 0), (0, .retAddr 0)] [.int 6, .int 6, .int 6] _ _ _ _
  refine pm_e_sim pm_a0_23 rfl ?_
  refine pm_e_top (y := 0) (by decide +kernel) ?_
  show pm_E _ _ _ 24 [(3, .int 6), (2, .ref 18), (1, .ref 0), (0, .retAddr 0)] [.int 0, .int 6] _ _ _ _
  refine pm_e_ict pm_a0_24 rfl (by decide +kernel) ?_
  show pm_E _ _ _ 785 [(3, .int 6), (2, .ref 18), (1, .ref 0), (0, .retAddr 0)] [] _ _ _ _
  refine pm_e_sim pm_a0_785 rfl ?_
  refine pm_e_top (y := 1) (by decide +kernel) ?_
  show pm_E _ _ _ 786 [(3, .int 6), (2, .ref 18), (1, .ref 0), (0, .retAddr 0)] [.int 1] _ _ _ _
  refine pm_e_ret pm_a0_786 rfl rfl rfl rfl rfl rfl rfl rfl ?_
  exact hQ _ _ _ (by decide +kernel) (by decide +kernel)
set_option maxHeartbeats 40000000 in
set_option maxRecDepth 200000 in
theorem pm_op22 (xs : Nat → Int32) {Q : Option Value → List va_E → Nat → Nat → Prop} (hQ : ∀ ph c n, c ≤ 600000 → n ≤ 7302250 → Q (some (.int 1)) ph c n) : pm_E (some (6, xs)) 11 pm_mm0 33 pm_L0 [.int (nI 22)] pm_H0 50 194358 Q := by
  refine pm_e_top (y := 22) (by decide +kernel) ?_
  rcases (show (xs 1).toInt = 0 ∨ (xs 1).toInt = 1 ∨ (xs 1).toInt = 2 ∨ ((xs 1).toInt ≠ 0 ∧ (xs 1).toInt ≠ 1 ∧ (xs 1).toInt ≠ 2) by omega) with h1 | h1 | h1 | h1
  · have e1 : xs 1 = 0 := Int32.toInt_inj.mp (by rw [h1]; decide +kernel)
    refine pm_e_tsi (t := 756) pm_a0_33 rfl (by decide +kernel) ?_
    show pm_E _ _ _ 756 [(3, .int 0), (2, .ref 18), (1, .ref 0), (0, .retAddr 0)] [] _ _ _ _
    refine pm_e_sim pm_a0_756 rfl ?_
    show pm_E _ _ _ 757 [(3, .int 0), (2, .ref 18), (1, .ref 0), (0, .retAddr 0)] [.ref 0] _ _ _ _
    refine pm_e_sim pm_a0_757 rfl ?_
    show pm_E _ _ _ 758 [(3, .int 0), (2, .ref 18), (1, .ref 0), (0, .retAddr 0)] [.retAddr 0, .ref 0] _ _ _ _
    refine pm_e_sim pm_a0_758 rfl ?_
    show pm_E _ _ _ 759 [(3, .int 0), (2, .ref 18), (1, .ref 0), (0, .retAddr 0)] [.int 0, .retAddr 0, .ref 0] _ _ _ _
    refine pm_e_sim pm_a0_759 rfl ?_
    refine pm_e_top (y := 1) (by decide +kernel) ?_
    show pm_E _ _ _ 760 [(3, .int 0), (2, .ref 18), (1, .ref 0), (0, .retAddr 0)] [.int 1, .int 0, .retAddr 0, .ref 0] _ _ _ _
    refine pm_e_sim pm_a0_760 rfl ?_
    refine pm_e_top (y := 1) (by decide +kernel) ?_
    show pm_E _ _ _ 761 [(3, .int 0), (2, .ref 18), (1, .ref 0), (0, .retAddr 0)] [.int 1, .retAddr 0, .ref 0] _ _ _ _
    refine pm_e_sldc (j := 1) (e := e1) pm_a0_761 (by decide +kernel) ?_
    show pm_E _ _ _ 762 [(3, .int 0), (2, .ref 18), (1, .ref 0), (0, .retAddr 0)] [.int 0, .ref 0] _ _ _ _
    refine pm_e_call (T2 := pm_mm44) pm_a0_762 rfl rfl rfl rfl rfl rfl rfl rfl rfl ?_
    show pm_E _ _ _ 0 [(0, .ref 0), (1, .int 0)] [] _ _ _ _
    refine pm_e_sim pm_a44_0 rfl ?_
    show pm_E _ _ _ 1 [(0, .ref 0), (1, .int 0)] [.int 0] _ _ _ _
    refine pm_e_tsi (t := 28) pm_a44_1 rfl (by decide +kernel) ?_
    show pm_E _ _ _ 28 [(0, .ref 0), (1, .int 0)] [] _ _ _ _
    refine pm_e_sim pm_a44_28 rfl ?_
    show pm_E _ _ _ 29 [(0, .ref 0), (1, .int 0)] [.ref 0] _ _ _ _
    refine pm_e_rd pm_a44_29 rfl rfl rfl ?_
    show pm_E _ _ _ 32 [(0, .ref 0), (1, .int 0)] [.int 0] _ _ _ _
    refine pm_e_ret pm_a44_32 rfl rfl rfl rfl rfl rfl rfl rfl ?_
    show pm_E _ _ _ 765 [(3, .int 0), (2, .ref 18), (1, .ref 0), (0, .retAddr 0)] [.int 0] _ _ _ _
    refine pm_e_sim pm_a0_765 rfl ?_
    show pm_E _ _ _ 766 [(3, .int 0), (2, .ref 18), (1, .ref 0), (0, .retAddr 0)] [.ref 18, .int 0] _ _ _ _
    refine pm_e_sim pm_a0_766 rfl ?_
    show pm_E _ _ _ 767 [(3, .int 0), (2, .ref 18), (1, .ref 0), (0, .retAddr 0)] [.retAddr 0, .ref 18, .int 0] _ _ _ _
    refine pm_e_sim pm_a0_767 rfl ?_
    show pm_E _ _ _ 768 [(3, .int 0), (2, .ref 18), (1, .ref 0), (0, .retAddr 0)] [.int 0, .retAddr 0, .ref 18, .int 0] _ _ _ _
    refine pm_e_sim pm_a0_768 rfl ?_
    refine pm_e_top (y := 1) (by decide +kernel) ?_
    show pm_E _ _ _ 769 [(3, .int 0), (2, .ref 18), (1, .ref 0), (0, .retAddr 0)] [.int 1, .int 0, .retAddr 0, .ref 18, .int 0] _ _ _ _
    refine pm_e_sim pm_a0_769 rfl ?_
    refine pm_e_top (y := 1) (by decide +kernel) ?_
    show pm_E _ _ _ 770 [(3, .int 0), (2, .ref 18), (1, .ref 0), (0, .retAddr 0)] [.int 1, .retAddr 0, .ref 18, .int 0] _ _ _ _
    refine pm_e_sldc (j := 1) (e := e1) pm_a0_770 (by decide +kernel) ?_
    show pm_E _ _ _ 771 [(3, .int 0), (2, .ref 18), (1, .ref 0), (0, .retAddr 0)] [.int 0, .ref 18, .int 0] _ _ _ _
    refine pm_e_call (T2 := pm_mm79) pm_a0_771 rfl rfl rfl rfl rfl rfl rfl rfl rfl ?_
    show pm_E _ _ _ 0 [(0, .ref 18), (1, .int 0)] [] _ _ _ _
    refine pm_e_sim pm_a79_0 rfl ?_
    refine pm_e_top (y := 0) (by decide +kernel) ?_
    show pm_E _ _ _ 1 [(0, .ref 18), (1, .int 0)] [.int 0] _ _ _ _
    refine pm_e_sim pm_a79_1 rfl ?_
    show pm_E _ _ _ 2 [(2, .int 0), (0, .ref 18), (1, .int 0)] [] _ _ _ _
    refine pm_e_sim pm_a79_2 rfl ?_
    refine pm_e_top (y := 0) (by decide +kernel) ?_
    show pm_E _ _ _ 3 [(2, .int 0), (0, .ref 18), (1, .int 0)] [.int 0] _ _ _ _
    refine pm_e_sim pm_a79_3 rfl ?_
    show pm_E _ _ _ 4 [(3, .int 0), (2, .int 0), (0, .ref 18), (1, .int 0)] [] _ _ _ _
    refine pm_e_sim pm_a79_4 rfl ?_
    show pm_E _ _ _ 5 [(3, .int 0), (2, .int 0), (0, .ref 18), (1, .int 0)] [.int 0] _ _ _ _
    refine pm_e_sim pm_a79_5 rfl ?_
    show pm_E _ _ _ 6 [(3, .int 0), (2, .int 0), (0, .ref 18), (1, .int 0)] [.ref 18, .int 0] _ _ _ _
    refine pm_e_rd pm_a79_6 rfl rfl rfl ?_
    show pm_E _ _ _ 9 [(3, .int 0), (2, .int 0), (0, .ref 18), (1, .int 0)] [.int 0, .int 0] _ _ _ _
    refine pm_e_ict pm_a79_9 rfl (by decide +kernel) ?_
    show pm_E _ _ _ 27 [(3, .int 0), (2, .int 0), (0, .ref 18), (1, .int 0)] [] _ _ _ _
    refine pm_e_sim pm_a79_27 rfl ?_
    show pm_E _ _ _ 28 [(3, .int 0), (2, .int 0), (0, .ref 18), (1, .int 0)] [.int 0] _ _ _ _
    refine pm_e_iff pm_a79_28 rfl (by decide +kernel) ?_
    show pm_E _ _ _ 31 [(3, .int 0), (2, .int 0), (0, .ref 18), (1, .int 0)] [] _ _ _ _
    refine pm_e_sim pm_a79_31 rfl ?_
    show pm_E _ _ _ 32 [(3, .int 0), (2, .int 0), (0, .ref 18), (1, .int 0)] [.ref 18] _ _ _ _
    refine pm_e_rd pm_a79_32 rfl rfl rfl ?_
    show pm_E _ _ _ 35 [(3, .int 0), (2, .int 0), (0, .ref 18), (1, .int 0)] [.int 0] _ _ _ _
    refine pm_e_goto pm_a79_35 rfl ?_
    show pm_E _ _ _ 60 [(3, .int 0), (2, .int 0), (0, .ref 18), (1, .int 0)] [.int 0] _ _ _ _
    refine pm_e_ret pm_a79_60 rfl rfl rfl rfl rfl rfl rfl rfl ?_
    show pm_E _ _ _ 774 [(3, .int 0), (2, .ref 18), (1, .ref 0), (0, .retAddr 0)] [.int 0, .int 0] _ _ _ _
    refine pm_e_ict pm_a0_774 rfl (by decide +kernel) ?_
    show pm_E _ _ _ 779 [(3, .int 0), (2, .ref 18), (1, .ref 0), (0, .retAddr 0)] [] _ _ _ _
    refine pm_e_inc (y := 6) pm_a0_779 rfl (by decide +kernel) (by decide +kernel) rfl ?_
    show pm_E _ _ _ 782 [(3, .int 6), (2, .ref 18), (1, .ref 0), (0, .retAddr 0)] [] _ _ _ _
    refine pm_e_goto pm_a0_782 rfl ?_
    show pm_E _ _ _ 18 [(3, .int 6), (2, .ref 18), (1, .ref 0), (0, .retAddr 0)] [] _ _ _ _
    refine pm_e_sim pm_a0_18 rfl ?_
    show pm_E _ _ _ 19 [(3, .int 6), (2, .ref 18), (1, .ref 0), (0, .retAddr 0)] [.int 6] _ _ _ _
    refine pm_e_sim pm_a0_19 rfl ?_
    show pm_E _ _ _ 20 [(3, .int 6), (2, .ref 18), (1, .ref 0), (0, .retAddr 0)] [.retAddr 0, .int 6] _ _ _ _
    refine pm_e_rd pm_a0_20 rfl rfl rfl ?_
    dsimp only
    refine pm_e_top (y := 6) (by decide +kernel) ?_
    show pm_E _ _ _ 21 [(3, .int 6), (2, .ref 18), (1, .ref 0), (0, .retAddr 0)] [.int 6, .int 6] _ _ _ _
    refine pm_e_sim pm_a0_21 rfl ?_
    refine pm_e_top (y := 6) (by decide +kernel) ?_
    show pm_E _ _ _ 23 [(3, .int 6), (2, .ref 18), (1, .ref 0), (0, .retAddr 0)] [.int 6, .int 6, .int 6] _ _ _ _
    refine pm_e_sim pm_a0_23 rfl ?_
    refine pm_e_top (y := 0) (by decide +kernel) ?_
    show pm_E _ _ _ 24 [(3, .int 6), (2, .ref 18), (1, .ref 0), (0, .retAddr 0)] [.int 0, .int 6] _ _ _ _
    refine pm_e_ict pm_a0_24 rfl (by decide +kernel) ?_
    show pm_E _ _ _ 785 [(3, .int 6), (2, .ref 18), (1, .ref 0), (0, .retAddr 0)] [] _ _ _ _
    refine pm_e_sim pm_a0_785 rfl ?_
    refine pm_e_top (y := 1) (by decide +kernel) ?_
    show pm_E _ _ _ 786 [(3, .int 6), (2, .ref 18), (1, .ref 0), (0, .retAddr 0)] [.int 1] _ _ _ _
    refine pm_e_ret pm_a0_786 rfl rfl rfl rfl rfl rfl rfl rfl ?_
    exact hQ _ _ _ (by decide +kernel) (by decide +kernel)
  · have e1 : xs 1 = 1 := Int32.toInt_inj.mp (by rw [h1]; decide +kernel)
    refine pm_e_tsi (t := 756) pm_a0_33 rfl (by decide +kernel) ?_
    show pm_E _ _ _ 756 [(3, .int 0), (2, .ref 18), (1, .ref 0), (0, .retAddr 0)] [] _ _ _ _
    refine pm_e_sim pm_a0_756 rfl ?_
    show pm_E _ _ _ 757 [(3, .int 0), (2, .ref 18), (1, .ref 0), (0, .retAddr 0)] [.ref 0] _ _ _ _
    refine pm_e_sim pm_a0_757 rfl ?_
    show pm_E _ _ _ 758 [(3, .int 0), (2, .ref 18), (1, .ref 0), (0, .retAddr 0)] [.retAddr 0, .ref 0] _ _ _ _
    refine pm_e_sim pm_a0_758 rfl ?_
    show pm_E _ _ _ 759 [(3, .int 0), (2, .ref 18), (1, .ref 0), (0, .retAddr 0)] [.int 0, .retAddr 0, .ref 0] _ _ _ _
    refine pm_e_sim pm_a0_759 rfl ?_
    refine pm_e_top (y := 1) (by decide +kernel) ?_
    show pm_E _ _ _ 760 [(3, .int 0), (2, .ref 18), (1, .ref 0), (0, .retAddr 0)] [.int 1, .int 0, .retAddr 0, .ref 0] _ _ _ _
    refine pm_e_sim pm_a0_760 rfl ?_
    refine pm_e_top (y := 1) (by decide +kernel) ?_
    show pm_E _ _ _ 761 [(3, .int 0), (2, .ref 18), (1, .ref 0), (0, .retAddr 0)] [.int 1, .retAddr 0, .ref 0] _ _ _ _
    refine pm_e_sldc (j := 1) (e := e1) pm_a0_761 (by decide +kernel) ?_
    show pm_E _ _ _ 762 [(3, .int 0), (2, .ref 18), (1, .ref 0), (0, .retAddr 0)] [.int 1, .ref 0] _ _ _ _
    refine pm_e_call (T2 := pm_mm44) pm_a0_762 rfl rfl rfl rfl rfl rfl rfl rfl rfl ?_
    show pm_E _ _ _ 0 [(0, .ref 0), (1, .int 1)] [] _ _ _ _
    refine pm_e_sim pm_a44_0 rfl ?_
    show pm_E _ _ _ 1 [(0, .ref 0), (1, .int 1)] [.int 1] _ _ _ _
    refine pm_e_tsi (t := 33) pm_a44_1 rfl (by decide +kernel) ?_
    show pm_E _ _ _ 33 [(0, .ref 0), (1, .int 1)] [] _ _ _ _
    refine pm_e_sim pm_a44_33 rfl ?_
    show pm_E _ _ _ 34 [(0, .ref 0), (1, .int 1)] [.ref 0] _ _ _ _
    refine pm_e_rd pm_a44_34 rfl rfl rfl ?_
    show pm_E _ _ _ 37 [(0, .ref 0), (1, .int 1)] [.ref 1] _ _ _ _
    refine pm_e_rd pm_a44_37 rfl rfl rfl ?_
    show pm_E _ _ _ 40 [(0, .ref 0), (1, .int 1)] [.int 0] _ _ _ _
    refine pm_e_ret pm_a44_40 rfl rfl rfl rfl rfl rfl rfl rfl ?_
    show pm_E _ _ _ 765 [(3, .int 0), (2, .ref 18), (1, .ref 0), (0, .retAddr 0)] [.int 0] _ _ _ _
    refine pm_e_sim pm_a0_765 rfl ?_
    show pm_E _ _ _ 766 [(3, .int 0), (2, .ref 18), (1, .ref 0), (0, .retAddr 0)] [.ref 18, .int 0] _ _ _ _
    refine pm_e_sim pm_a0_766 rfl ?_
    show pm_E _ _ _ 767 [(3, .int 0), (2, .ref 18), (1, .ref 0), (0, .retAddr 0)] [.retAddr 0, .ref 18, .int 0] _ _ _ _
    refine pm_e_sim pm_a0_767 rfl ?_
    show pm_E _ _ _ 768 [(3, .int 0), (2, .ref 18), (1, .ref 0), (0, .retAddr 0)] [.int 0, .retAddr 0, .ref 18, .int 0] _ _ _ _
    refine pm_e_sim pm_a0_768 rfl ?_
    refine pm_e_top (y := 1) (by decide +kernel) ?_
    show pm_E _ _ _ 769 [(3, .int 0), (2, .ref 18), (1, .ref 0), (0, .retAddr 0)] [.int 1, .int 0, .retAddr 0, .ref 18, .int 0] _ _ _ _
    refine pm_e_sim pm_a0_769 rfl ?_
    refine pm_e_top (y := 1) (by decide +kernel) ?_
    show pm_E _ _ _ 770 [(3, .int 0), (2, .ref 18), (1, .ref 0), (0, .retAddr 0)] [.int 1, .retAddr 0, .ref 18, .int 0] _ _ _ _
    refine pm_e_sldc (j := 1) (e := e1) pm_a0_770 (by decide +kernel) ?_
    show pm_E _ _ _ 771 [(3, .int 0), (2, .ref 18), (1, .ref 0), (0, .retAddr 0)] [.int 1, .ref 18, .int 0] _ _ _ _
    refine pm_e_call (T2 := pm_mm79) pm_a0_771 rfl rfl rfl rfl rfl rfl rfl rfl rfl ?_
    show pm_E _ _ _ 0 [(0, .ref 18), (1, .int 1)] [] _ _ _ _
    refine pm_e_sim pm_a79_0 rfl ?_
    refine pm_e_top (y := 0) (by decide +kernel) ?_
    show pm_E _ _ _ 1 [(0, .ref 18), (1, .int 1)] [.int 0] _ _ _ _
    refine pm_e_sim pm_a79_1 rfl ?_
    show pm_E _ _ _ 2 [(2, .int 0), (0, .ref 18), (1, .int 1)] [] _ _ _ _
    refine pm_e_sim pm_a79_2 rfl ?_
    refine pm_e_top (y := 0) (by decide +kernel) ?_
    show pm_E _ _ _ 3 [(2, .int 0), (0, .ref 18), (1, .int 1)] [.int 0] _ _ _ _
    refine pm_e_sim pm_a79_3 rfl ?_
    show pm_E _ _ _ 4 [(3, .int 0), (2, .int 0), (0, .ref 18), (1, .int 1)] [] _ _ _ _
    refine pm_e_sim pm_a79_4 rfl ?_
    show pm_E _ _ _ 5 [(3, .int 0), (2, .int 0), (0, .ref 18), (1, .int 1)] [.int 0] _ _ _ _
    refine pm_e_sim pm_a79_5 rfl ?_
    show pm_E _ _ _ 6 [(3, .int 0), (2, .int 0), (0, .ref 18), (1, .int 1)] [.ref 18, .int 0] _ _ _ _
    refine pm_e_rd pm_a79_6 rfl rfl rfl ?_
    show pm_E _ _ _ 9 [(3, .int 0), (2, .int 0), (0, .ref 18), (1, .int 1)] [.int 0, .int 0] _ _ _ _
    refine pm_e_ict pm_a79_9 rfl (by decide +kernel) ?_
    show pm_E _ _ _ 27 [(3, .int 0), (2, .int 0), (0, .ref 18), (1, .int 1)] [] _ _ _ _
    refine pm_e_sim pm_a79_27 rfl ?_
    show pm_E _ _ _ 28 [(3, .int 0), (2, .int 0), (0, .ref 18), (1, .int 1)] [.int 1] _ _ _ _
    refine pm_e_ift pm_a79_28 rfl (by decide +kernel) ?_
    show pm_E _ _ _ 38 [(3, .int 0), (2, .int 0), (0, .ref 18), (1, .int 1)] [] _ _ _ _
    refine pm_e_sim pm_a79_38 rfl ?_
    show pm_E _ _ _ 39 [(3, .int 0), (2, .int 0), (0, .ref 18), (1, .int 1)] [.int 1] _ _ _ _
    refine pm_e_sim pm_a79_39 rfl ?_
    refine pm_e_top (y := 1) (by decide +kernel) ?_
    show pm_E _ _ _ 40 [(3, .int 0), (2, .int 0), (0, .ref 18), (1, .int 1)] [.int 1, .int 1] _ _ _ _
    refine pm_e_icf pm_a79_40 rfl (by decide +kernel) ?_
    show pm_E _ _ _ 43 [(3, .int 0), (2, .int 0), (0, .ref 18), (1, .int 1)] [] _ _ _ _
    refine pm_e_sim pm_a79_43 rfl ?_
    show pm_E _ _ _ 44 [(3, .int 0), (2, .int 0), (0, .ref 18), (1, .int 1)] [.ref 18] _ _ _ _
    refine pm_e_rd pm_a79_44 rfl rfl rfl ?_
    show pm_E _ _ _ 47 [(3, .int 0), (2, .int 0), (0, .ref 18), (1, .int 1)] [.int 0] _ _ _ _
    refine pm_e_goto pm_a79_47 rfl ?_
    show pm_E _ _ _ 60 [(3, .int 0), (2, .int 0), (0, .ref 18), (1, .int 1)] [.int 0] _ _ _ _
    refine pm_e_ret pm_a79_60 rfl rfl rfl rfl rfl rfl rfl rfl ?_
    show pm_E _ _ _ 774 [(3, .int 0), (2, .ref 18), (1, .ref 0), (0, .retAddr 0)] [.int 0, .int 0] _ _ _ _
    refine pm_e_ict pm_a0_774 rfl (by decide +kernel) ?_
    show pm_E _ _ _ 779 [(3, .int 0), (2, .ref 18), (1, .ref 0), (0, .retAddr 0)] [] _ _ _ _
    refine pm_e_inc (y := 6) pm_a0_779 rfl (by decide +kernel) (by decide +kernel) rfl ?_
    show pm_E _ _ _ 782 [(3, .int 6), (2, .ref 18), (1, .ref 0), (0, .retAddr 0)] [] _ _ _ _
    refine pm_e_goto pm_a0_782 rfl ?_
    show pm_E _ _ _ 18 [(3, .int 6), (2, .ref 18), (1, .ref 0), (0, .retAddr 0)] [] _ _ _ _
    refine pm_e_sim pm_a0_18 rfl ?_
    show pm_E _ _ _ 19 [(3, .int 6), (2, .ref 18), (1, .ref 0), (0, .retAddr 0)] [.int 6] _ _ _ _
    refine pm_e_sim pm_a0_19 rfl ?_
    show pm_E _ _ _ 20 [(3, .int 6), (2, .ref 18), (1, .ref 0), (0, .retAddr 0)] [.retAddr 0, .int 6] _ _ _ _
    refine pm_e_rd pm_a0_20 rfl rfl rfl ?_
    dsimp only
    refine pm_e_top (y := 6) (by decide +kernel) ?_
    show pm_E _ _ _ 21 [(3, .int 6), (2, .ref 18), (1, .ref 0), (0, .retAddr 0)] [.int 6, .int 6] _ _ _ _
    refine pm_e_sim pm_a0_21 rfl ?_
    refine pm_e_top (y := 6) (by decide +kernel) ?_
    show pm_E _ _ _ 23 [(3, .int 6), (2, .ref 18), (1, .ref 0), (0, .retAddr 0)] [.int 6, .int 6, .int 6] _ _ _ _
    refine pm_e_sim pm_a0_23 rfl ?_
    refine pm_e_top (y := 0) (by decide +kernel) ?_
    show pm_E _ _ _ 24 [(3, .int 6), (2, .ref 18), (1, .ref 0), (0, .retAddr 0)] [.int 0, .int 6] _ _ _ _
    refine pm_e_ict pm_a0_24 rfl (by decide +kernel) ?_
    show pm_E _ _ _ 785 [(3, .int 6), (2, .ref 18), (1, .ref 0), (0, .retAddr 0)] [] _ _ _ _
    refine pm_e_sim pm_a0_785 rfl ?_
    refine pm_e_top (y := 1) (by decide +kernel) ?_
    show pm_E _ _ _ 786 [(3, .int 6), (2, .ref 18), (1, .ref 0), (0, .retAddr 0)] [.int 1] _ _ _ _
    refine pm_e_ret pm_a0_786 rfl rfl rfl rfl rfl rfl rfl rfl ?_
    exact hQ _ _ _ (by decide +kernel) (by decide +kernel)
  · have e1 : xs 1 = 2 := Int32.toInt_inj.mp (by rw [h1]; decide +kernel)
    refine pm_e_tsi (t := 756) pm_a0_33 rfl (by decide +kernel) ?_
    show pm_E _ _ _ 756 [(3, .int 0), (2, .ref 18), (1, .ref 0), (0, .retAddr 0)] [] _ _ _ _
    refine pm_e_sim pm_a0_756 rfl ?_
    show pm_E _ _ _ 757 [(3, .int 0), (2, .ref 18), (1, .ref 0), (0, .retAddr 0)] [.ref 0] _ _ _ _
    refine pm_e_sim pm_a0_757 rfl ?_
    show pm_E _ _ _ 758 [(3, .int 0), (2, .ref 18), (1, .ref 0), (0, .retAddr 0)] [.retAddr 0, .ref 0] _ _ _ _
    refine pm_e_sim pm_a0_758 rfl ?_
    show pm_E _ _ _ 759 [(3, .int 0), (2, .ref 18), (1, .ref 0), (0, .retAddr 0)] [.int 0, .retAddr 0, .ref 0] _ _ _ _
    refine pm_e_sim pm_a0_759 rfl ?_
    refine pm_e_top (y := 1) (by decide +kernel) ?_
    show pm_E _ _ _ 760 [(3, .int 0), (2, .ref 18), (1, .ref 0), (0, .retAddr 0)] [.int 1, .int 0, .retAddr 0, .ref 0] _ _ _ _
    refine pm_e_sim pm_a0_760 rfl ?_
    refine pm_e_top (y := 1) (by decide +kernel) ?_
    show pm_E _ _ _ 761 [(3, .int 0), (2, .ref 18), (1, .ref 0), (0, .retAddr 0)] [.int 1, .retAddr 0, .ref 0] _ _ _ _
    refine pm_e_sldc (j := 1) (e := e1) pm_a0_761 (by decide +kernel) ?_
    show pm_E _ _ _ 762 [(3, .int 0), (2, .ref 18), (1, .ref 0), (0, .retAddr 0)] [.int 2, .ref 0] _ _ _ _
    refine pm_e_call (T2 := pm_mm44) pm_a0_762 rfl rfl rfl rfl rfl rfl rfl rfl rfl ?_
    show pm_E _ _ _ 0 [(0, .ref 0), (1, .int 2)] [] _ _ _ _
    refine pm_e_sim pm_a44_0 rfl ?_
    show pm_E _ _ _ 1 [(0, .ref 0), (1, .int 2)] [.int 2] _ _ _ _
    refine pm_e_tsi (t := 41) pm_a44_1 rfl (by decide +kernel) ?_
    show pm_E _ _ _ 41 [(0, .ref 0), (1, .int 2)] [] _ _ _ _
    refine pm_e_sim pm_a44_41 rfl ?_
    show pm_E _ _ _ 42 [(0, .ref 0), (1, .int 2)] [.ref 0] _ _ _ _
    refine pm_e_call (T2 := pm_mm45) pm_a44_42 rfl rfl rfl rfl rfl rfl rfl rfl rfl ?_
    show pm_E _ _ _ 0 [(0, .ref 0)] [] _ _ _ _
    refine pm_e_sim pm_a45_0 rfl ?_
    refine pm_e_top (y := 0) (by decide +kernel) ?_
    show pm_E _ _ _ 1 [(0, .ref 0)] [.int 0] _ _ _ _
    refine pm_e_sim pm_a45_1 rfl ?_
    show pm_E _ _ _ 2 [(1, .int 0), (0, .ref 0)] [] _ _ _ _
    refine pm_e_sim pm_a45_2 rfl ?_
    refine pm_e_top (y := 0) (by decide +kernel) ?_
    show pm_E _ _ _ 3 [(1, .int 0), (0, .ref 0)] [.int 0] _ _ _ _
    refine pm_e_sim pm_a45_3 rfl ?_
    show pm_E _ _ _ 4 [(2, .int 0), (1, .int 0), (0, .ref 0)] [] _ _ _ _
    refine pm_e_sim pm_a45_4 rfl ?_
    show pm_E _ _ _ 5 [(2, .int 0), (1, .int 0), (0, .ref 0)] [.int 0] _ _ _ _
    refine pm_e_sim pm_a45_5 rfl ?_
    show pm_E _ _ _ 6 [(2, .int 0), (1, .int 0), (0, .ref 0)] [.ref 0, .int 0] _ _ _ _
    refine pm_e_rd pm_a45_6 rfl rfl rfl ?_
    show pm_E _ _ _ 9 [(2, .int 0), (1, .int 0), (0, .ref 0)] [.int 0, .int 0] _ _ _ _
    refine pm_e_ict pm_a45_9 rfl (by decide +kernel) ?_
    show pm_E _ _ _ 39 [(2, .int 0), (1, .int 0), (0, .ref 0)] [] _ _ _ _
    refine pm_e_sim pm_a45_39 rfl ?_
    show pm_E _ _ _ 40 [(2, .int 0), (1, .int 0), (0, .ref 0)] [.int 0] _ _ _ _
    refine pm_e_ret pm_a45_40 rfl rfl rfl rfl rfl rfl rfl rfl ?_
    show pm_E _ _ _ 45 [(0, .ref 0), (1, .int 2)] [.int 0] _ _ _ _
    refine pm_e_ret pm_a44_45 rfl rfl rfl rfl rfl rfl rfl rfl ?_
    show pm_E _ _ _ 765 [(3, .int 0), (2, .ref 18), (1, .ref 0), (0, .retAddr 0)] [.int 0] _ _ _ _
    refine pm_e_sim pm_a0_765 rfl ?_
    show pm_E _ _ _ 766 [(3, .int 0), (2, .ref 18), (1, .ref 0), (0, .retAddr 0)] [.ref 18, .int 0] _ _ _ _
    refine pm_e_sim pm_a0_766 rfl ?_
    show pm_E _ _ _ 767 [(3, .int 0), (2, .ref 18), (1, .ref 0), (0, .retAddr 0)] [.retAddr 0, .ref 18, .int 0] _ _ _ _
    refine pm_e_sim pm_a0_767 rfl ?_
    show pm_E _ _ _ 768 [(3, .int 0), (2, .ref 18), (1, .ref 0), (0, .retAddr 0)] [.int 0, .retAddr 0, .ref 18, .int 0] _ _ _ _
    refine pm_e_sim pm_a0_768 rfl ?_
    refine pm_e_top (y := 1) (by decide +kernel) ?_
    show pm_E _ _ _ 769 [(3, .int 0), (2, .ref 18), (1, .ref 0), (0, .retAddr 0)] [.int 1, .int 0, .retAddr 0, .ref 18, .int 0] _ _ _ _
    refine pm_e_sim pm_a0_769 rfl ?_
    refine pm_e_top (y := 1) (by decide +kernel) ?_
    show pm_E _ _ _ 770 [(3, .int 0), (2, .ref 18), (1, .ref 0), (0, .retAddr 0)] [.int 1, .retAddr 0, .ref 18, .int 0] _ _ _ _
    refine pm_e_sldc (j := 1) (e := e1) pm_a0_770 (by decide +kernel) ?_
    show pm_E _ _ _ 771 [(3, .int 0), (2, .ref 18), (1, .ref 0), (0, .retAddr 0)] [.int 2, .ref 18, .int 0] _ _ _ _
    refine pm_e_call (T2 := pm_mm79) pm_a0_771 rfl rfl rfl rfl rfl rfl rfl rfl rfl ?_
    show pm_E _ _ _ 0 [(0, .ref 18), (1, .int 2)] [] _ _ _ _
    refine pm_e_sim pm_a79_0 rfl ?_
    refine pm_e_top (y := 0) (by decide +kernel) ?_
    show pm_E _ _ _ 1 [(0, .ref 18), (1, .int 2)] [.int 0] _ _ _ _
    refine pm_e_sim pm_a79_1 rfl ?_
    show pm_E _ _ _ 2 [(2, .int 0), (0, .ref 18), (1, .int 2)] [] _ _ _ _
    refine pm_e_sim pm_a79_2 rfl ?_
    refine pm_e_top (y := 0) (by decide +kernel) ?_
    show pm_E _ _ _ 3 [(2, .int 0), (0, .ref 18), (1, .int 2)] [.int 0] _ _ _ _
    refine pm_e_sim pm_a79_3 rfl ?_
    show pm_E _ _ _ 4 [(3, .int 0), (2, .int 0), (0, .ref 18), (1, .int 2)] [] _ _ _ _
    refine pm_e_sim pm_a79_4 rfl ?_
    show pm_E _ _ _ 5 [(3, .int 0), (2, .int 0), (0, .ref 18), (1, .int 2)] [.int 0] _ _ _ _
    refine pm_e_sim pm_a79_5 rfl ?_
    show pm_E _ _ _ 6 [(3, .int 0), (2, .int 0), (0, .ref 18), (1, .int 2)] [.ref 18, .int 0] _ _ _ _
    refine pm_e_rd pm_a79_6 rfl rfl rfl ?_
    show pm_E _ _ _ 9 [(3, .int 0), (2, .int 0), (0, .ref 18), (1, .int 2)] [.int 0, .int 0] _ _ _ _
    refine pm_e_ict pm_a79_9 rfl (by decide +kernel) ?_
    show pm_E _ _ _ 27 [(3, .int 0), (2, .int 0), (0, .ref 18), (1, .int 2)] [] _ _ _ _
    refine pm_e_sim pm_a79_27 rfl ?_
    show pm_E _ _ _ 28 [(3, .int 0), (2, .int 0), (0, .ref 18), (1, .int 2)] [.int 2] _ _ _ _
    refine pm_e_ift pm_a79_28 rfl (by decide +kernel) ?_
    show pm_E _ _ _ 38 [(3, .int 0), (2, .int 0), (0, .ref 18), (1, .int 2)] [] _ _ _ _
    refine pm_e_sim pm_a79_38 rfl ?_
    show pm_E _ _ _ 39 [(3, .int 0), (2, .int 0), (0, .ref 18), (1, .int 2)] [.int 2] _ _ _ _
    refine pm_e_sim pm_a79_39 rfl ?_
    refine pm_e_top (y := 1) (by decide +kernel) ?_
    show pm_E _ _ _ 40 [(3, .int 0), (2, .int 0), (0, .ref 18), (1, .int 2)] [.int 1, .int 2] _ _ _ _
    refine pm_e_ict pm_a79_40 rfl (by decide +kernel) ?_
    show pm_E _ _ _ 50 [(3, .int 0), (2, .int 0), (0, .ref 18), (1, .int 2)] [] _ _ _ _
    refine pm_e_sim pm_a79_50 rfl ?_
    show pm_E _ _ _ 51 [(3, .int 0), (2, .int 0), (0, .ref 18), (1, .int 2)] [.int 2] _ _ _ _
    refine pm_e_sim pm_a79_51 rfl ?_
    refine pm_e_top (y := 2) (by decide +kernel) ?_
    show pm_E _ _ _ 52 [(3, .int 0), (2, .int 0), (0, .ref 18), (1, .int 2)] [.int 2, .int 2] _ _ _ _
    refine pm_e_icf pm_a79_52 rfl (by decide +kernel) ?_
    show pm_E _ _ _ 55 [(3, .int 0), (2, .int 0), (0, .ref 18), (1, .int 2)] [] _ _ _ _
    refine pm_e_sim pm_a79_55 rfl ?_
    show pm_E _ _ _ 56 [(3, .int 0), (2, .int 0), (0, .ref 18), (1, .int 2)] [.int 0] _ _ _ _
    refine pm_e_goto pm_a79_56 rfl ?_
    show pm_E _ _ _ 60 [(3, .int 0), (2, .int 0), (0, .ref 18), (1, .int 2)] [.int 0] _ _ _ _
    refine pm_e_ret pm_a79_60 rfl rfl rfl rfl rfl rfl rfl rfl ?_
    show pm_E _ _ _ 774 [(3, .int 0), (2, .ref 18), (1, .ref 0), (0, .retAddr 0)] [.int 0, .int 0] _ _ _ _
    refine pm_e_ict pm_a0_774 rfl (by decide +kernel) ?_
    show pm_E _ _ _ 779 [(3, .int 0), (2, .ref 18), (1, .ref 0), (0, .retAddr 0)] [] _ _ _ _
    refine pm_e_inc (y := 6) pm_a0_779 rfl (by decide +kernel) (by decide +kernel) rfl ?_
    show pm_E _ _ _ 782 [(3, .int 6), (2, .ref 18), (1, .ref 0), (0, .retAddr 0)] [] _ _ _ _
    refine pm_e_goto pm_a0_782 rfl ?_
    show pm_E _ _ _ 18 [(3, .int 6), (2, .ref 18), (1, .ref 0), (0, .retAddr 0)] [] _ _ _ _
    refine pm_e_sim pm_a0_18 rfl ?_
    show pm_E _ _ _ 19 [(3, .int 6), (2, .ref 18), (1, .ref 0), (0, .retAddr 0)] [.int 6] _ _ _ _
    refine pm_e_sim pm_a0_19 rfl ?_
    show pm_E _ _ _ 20 [(3, .int 6), (2, .ref 18), (1, .ref 0), (0, .retAddr 0)] [.retAddr 0, .int 6] _ _ _ _
    refine pm_e_rd pm_a0_20 rfl rfl rfl ?_
    dsimp only
    refine pm_e_top (y := 6) (by decide +kernel) ?_
    show pm_E _ _ _ 21 [(3, .int 6), (2, .ref 18), (1, .ref 0), (0, .retAddr 0)] [.int 6, .int 6] _ _ _ _
    refine pm_e_sim pm_a0_21 rfl ?_
    refine pm_e_top (y := 6) (by decide +kernel) ?_
    show pm_E _ _ _ 23 [(3, .int 6), (2, .ref 18), (1, .ref 0), (0, .retAddr 0)] [.int 6, .int 6, .int 6] _ _ _ _
    refine pm_e_sim pm_a0_23 rfl ?_
    refine pm_e_top (y := 0) (by decide +kernel) ?_
    show pm_E _ _ _ 24 [(3, .int 6), (2, .ref 18), (1, .ref 0), (0, .retAddr 0)] [.int 0, .int 6] _ _ _ _
    refine pm_e_ict pm_a0_24 rfl (by decide +kernel) ?_
    show pm_E _ _ _ 785 [(3, .int 6), (2, .ref 18), (1, .ref 0), (0, .retAddr 0)] [] _ _ _ _
    refine pm_e_sim pm_a0_785 rfl ?_
    refine pm_e_top (y := 1) (by decide +kernel) ?_
    show pm_E _ _ _ 786 [(3, .int 6), (2, .ref 18), (1, .ref 0), (0, .retAddr 0)] [.int 1] _ _ _ _
    refine pm_e_ret pm_a0_786 rfl rfl rfl rfl rfl rfl rfl rfl ?_
    exact hQ _ _ _ (by decide +kernel) (by decide +kernel)
  · obtain ⟨h1, h2, h3⟩ := h1
    refine pm_e_tsi (t := 756) pm_a0_33 rfl (by decide +kernel) ?_
    show pm_E _ _ _ 756 [(3, .int 0), (2, .ref 18), (1, .ref 0), (0, .retAddr 0)] [] _ _ _ _
    refine pm_e_sim pm_a0_756 rfl ?_
    show pm_E _ _ _ 757 [(3, .int 0), (2, .ref 18), (1, .ref 0), (0, .retAddr 0)] [.ref 0] _ _ _ _
    refine pm_e_sim pm_a0_757 rfl ?_
    show pm_E _ _ _ 758 [(3, .int 0), (2, .ref 18), (1, .ref 0), (0, .retAddr 0)] [.retAddr 0, .ref 0] _ _ _ _
    refine pm_e_sim pm_a0_758 rfl ?_
    show pm_E _ _ _ 759 [(3, .int 0), (2, .ref 18), (1, .ref 0), (0, .retAddr 0)] [.int 0, .retAddr 0, .ref 0] _ _ _ _
    refine pm_e_sim pm_a0_759 rfl ?_
    refine pm_e_top (y := 1) (by decide +kernel) ?_
    show pm_E _ _ _ 760 [(3, .int 0), (2, .ref 18), (1, .ref 0), (0, .retAddr 0)] [.int 1, .int 0, .retAddr 0, .ref 0] _ _ _ _
    refine pm_e_sim pm_a0_760 rfl ?_
    refine pm_e_top (y := 1) (by decide +kernel) ?_
    show pm_E _ _ _ 761 [(3, .int 0), (2, .ref 18), (1, .ref 0), (0, .retAddr 0)] [.int 1, .retAddr 0, .ref 0] _ _ _ _
    refine pm_e_sld (j := 1) pm_a0_761 (by decide +kernel) ?_
    show pm_E _ _ _ 762 [(3, .int 0), (2, .ref 18), (1, .ref 0), (0, .retAddr 0)] [.int _, .ref 0] _ _ _ _
    refine pm_e_call (T2 := pm_mm44) pm_a0_762 rfl rfl rfl rfl rfl rfl rfl rfl rfl ?_
    show pm_E _ _ _ 0 [(0, .ref 0), (1, .int _)] [] _ _ _ _
    refine pm_e_sim pm_a44_0 rfl ?_
    show pm_E _ _ _ 1 [(0, .ref 0), (1, .int _)] [.int _] _ _ _ _
    refine pm_e_tso (t := 46) pm_a44_1 (by omega) rfl ?_
    show pm_E _ _ _ 46 [(0, .ref 0), (1, .int _)] [] _ _ _ _
    refine pm_e_sim pm_a44_46 rfl ?_
    refine pm_e_top (y := (-1)) (by decide +kernel) ?_
    show pm_E _ _ _ 47 [(0, .ref 0), (1, .int _)] [.int (-1)] _ _ _ _
    refine pm_e_ret pm_a44_47 rfl rfl rfl rfl rfl rfl rfl rfl ?_
    show pm_E _ _ _ 765 [(3, .int 0), (2, .ref 18), (1, .ref 0), (0, .retAddr 0)] [.int (-1)] _ _ _ _
    refine pm_e_sim pm_a0_765 rfl ?_
    show pm_E _ _ _ 766 [(3, .int 0), (2, .ref 18), (1, .ref 0), (0, .retAddr 0)] [.ref 18, .int (-1)] _ _ _ _
    refine pm_e_sim pm_a0_766 rfl ?_
    show pm_E _ _ _ 767 [(3, .int 0), (2, .ref 18), (1, .ref 0), (0, .retAddr 0)] [.retAddr 0, .ref 18, .int (-1)] _ _ _ _
    refine pm_e_sim pm_a0_767 rfl ?_
    show pm_E _ _ _ 768 [(3, .int 0), (2, .ref 18), (1, .ref 0), (0, .retAddr 0)] [.int 0, .retAddr 0, .ref 18, .int (-1)] _ _ _ _
    refine pm_e_sim pm_a0_768 rfl ?_
    refine pm_e_top (y := 1) (by decide +kernel) ?_
    show pm_E _ _ _ 769 [(3, .int 0), (2, .ref 18), (1, .ref 0), (0, .retAddr 0)] [.int 1, .int 0, .retAddr 0, .ref 18, .int (-1)] _ _ _ _
    refine pm_e_sim pm_a0_769 rfl ?_
    refine pm_e_top (y := 1) (by decide +kernel) ?_
    show pm_E _ _ _ 770 [(3, .int 0), (2, .ref 18), (1, .ref 0), (0, .retAddr 0)] [.int 1, .retAddr 0, .ref 18, .int (-1)] _ _ _ _
    refine pm_e_sld (j := 1) pm_a0_770 (by decide +kernel) ?_
    show pm_E _ _ _ 771 [(3, .int 0), (2, .ref 18), (1, .ref 0), (0, .retAddr 0)] [.int _, .ref 18, .int (-1)] _ _ _ _
    refine pm_e_call (T2 := pm_mm79) pm_a0_771 rfl rfl rfl rfl rfl rfl rfl rfl rfl ?_
    show pm_E _ _ _ 0 [(0, .ref 18), (1, .int _)] [] _ _ _ _
    refine pm_e_sim pm_a79_0 rfl ?_
    refine pm_e_top (y := 0) (by decide +kernel) ?_
    show pm_E _ _ _ 1 [(0, .ref 18), (1, .int _)] [.int 0] _ _ _ _
    refine pm_e_sim pm_a79_1 rfl ?_
    show pm_E _ _ _ 2 [(2, .int 0), (0, .ref 18), (1, .int _)] [] _ _ _ _
    refine pm_e_sim pm_a79_2 rfl ?_
    refine pm_e_top (y := 0) (by decide +kernel) ?_
    show pm_E _ _ _ 3 [(2, .int 0), (0, .ref 18), (1, .int _)] [.int 0] _ _ _ _
    refine pm_e_sim pm_a79_3 rfl ?_
    show pm_E _ _ _ 4 [(3, .int 0), (2, .int 0), (0, .ref 18), (1, .int _)] [] _ _ _ _
    refine pm_e_sim pm_a79_4 rfl ?_
    show pm_E _ _ _ 5 [(3, .int 0), (2, .int 0), (0, .ref 18), (1, .int _)] [.int 0] _ _ _ _
    refine pm_e_sim pm_a79_5 rfl ?_
    show pm_E _ _ _ 6 [(3, .int 0), (2, .int 0), (0, .ref 18), (1, .int _)] [.ref 18, .int 0] _ _ _ _
    refine pm_e_rd pm_a79_6 rfl rfl rfl ?_
    show pm_E _ _ _ 9 [(3, .int 0), (2, .int 0), (0, .ref 18), (1, .int _)] [.int 0, .int 0] _ _ _ _
    refine pm_e_ict pm_a79_9 rfl (by decide +kernel) ?_
    show pm_E _ _ _ 27 [(3, .int 0), (2, .int 0), (0, .ref 18), (1, .int _)] [] _ _ _ _
    refine pm_e_sim pm_a79_27 rfl ?_
    show pm_E _ _ _ 28 [(3, .int 0), (2, .int 0), (0, .ref 18), (1, .int _)] [.int _] _ _ _ _
    refine pm_e_ift pm_a79_28 rfl (pm_z_ne_t 0 (by decide +kernel) (by omega)) ?_
    show pm_E _ _ _ 38 [(3, .int 0), (2, .int 0), (0, .ref 18), (1, .int _)] [] _ _ _ _
    refine pm_e_sim pm_a79_38 rfl ?_
    show pm_E _ _ _ 39 [(3, .int 0), (2, .int 0), (0, .ref 18), (1, .int _)] [.int _] _ _ _ _
    refine pm_e_sim pm_a79_39 rfl ?_
    refine pm_e_top (y := 1) (by decide +kernel) ?_
    show pm_E _ _ _ 40 [(3, .int 0), (2, .int 0), (0, .ref 18), (1, .int _)] [.int 1, .int _] _ _ _ _
    refine pm_e_ict pm_a79_40 rfl (pm_z_ne_t 1 (by decide +kernel) (by omega)) ?_
    show pm_E _ _ _ 50 [(3, .int 0), (2, .int 0), (0, .ref 18), (1, .int _)] [] _ _ _ _
    refine pm_e_sim pm_a79_50 rfl ?_
    show pm_E _ _ _ 51 [(3, .int 0), (2, .int 0), (0, .ref 18), (1, .int _)] [.int _] _ _ _ _
    refine pm_e_sim pm_a79_51 rfl ?_
    refine pm_e_top (y := 2) (by decide +kernel) ?_
    show pm_E _ _ _ 52 [(3, .int 0), (2, .int 0), (0, .ref 18), (1, .int _)] [.int 2, .int _] _ _ _ _
    refine pm_e_ict pm_a79_52 rfl (pm_z_ne_t 2 (by decide +kernel) (by omega)) ?_
    show pm_E _ _ _ 59 [(3, .int 0), (2, .int 0), (0, .ref 18), (1, .int _)] [] _ _ _ _
    refine pm_e_sim pm_a79_59 rfl ?_
    refine pm_e_top (y := (-1)) (by decide +kernel) ?_
    show pm_E _ _ _ 60 [(3, .int 0), (2, .int 0), (0, .ref 18), (1, .int _)] [.int (-1)] _ _ _ _
    refine pm_e_ret pm_a79_60 rfl rfl rfl rfl rfl rfl rfl rfl ?_
    show pm_E _ _ _ 774 [(3, .int 0), (2, .ref 18), (1, .ref 0), (0, .retAddr 0)] [.int (-1), .int (-1)] _ _ _ _
    refine pm_e_ict pm_a0_774 rfl (by decide +kernel) ?_
    show pm_E _ _ _ 779 [(3, .int 0), (2, .ref 18), (1, .ref 0), (0, .retAddr 0)] [] _ _ _ _
    refine pm_e_inc (y := 6) pm_a0_779 rfl (by decide +kernel) (by decide +kernel) rfl ?_
    show pm_E _ _ _ 782 [(3, .int 6), (2, .ref 18), (1, .ref 0), (0, .retAddr 0)] [] _ _ _ _
    refine pm_e_goto pm_a0_782 rfl ?_
    show pm_E _ _ _ 18 [(3, .int 6), (2, .ref 18), (1, .ref 0), (0, .retAddr 0)] [] _ _ _ _
    refine pm_e_sim pm_a0_18 rfl ?_
    show pm_E _ _ _ 19 [(3, .int 6), (2, .ref 18), (1, .ref 0), (0, .retAddr 0)] [.int 6] _ _ _ _
    refine pm_e_sim pm_a0_19 rfl ?_
    show pm_E _ _ _ 20 [(3, .int 6), (2, .ref 18), (1, .ref 0), (0, .retAddr 0)] [.retAddr 0, .int 6] _ _ _ _
    refine pm_e_rd pm_a0_20 rfl rfl rfl ?_
    dsimp only
    refine pm_e_top (y := 6) (by decide +kernel) ?_
    show pm_E _ _ _ 21 [(3, .int 6), (2, .ref 18), (1, .ref 0), (0, .retAddr 0)] [.int 6, .int 6] _ _ _ _
    refine pm_e_sim pm_a0_21 rfl ?_
    refine pm_e_top (y := 6) (by decide +kernel) ?_
    show pm_E _ _ _ 23 [(3, .int 6), (2, .ref 18), (1, .ref 0), (0, .retAddr 0)] [.int 6, .int 6, .int 6] _ _ _ _
    refine pm_e_sim pm_a0_23 rfl ?_
    refine pm_e_top (y := 0) (by decide +kernel) ?_
    show pm_E _ _ _ 24 [(3, .int 6), (2, .ref 18), (1, .ref 0), (0, .retAddr 0)] [.int 0, .int 6] _ _ _ _
    refine pm_e_ict pm_a0_24 rfl (by decide +kernel) ?_
    show pm_E _ _ _ 785 [(3, .int 6), (2, .ref 18), (1, .ref 0), (0, .retAddr 0)] [] _ _ _ _
    refine pm_e_sim pm_a0_785 rfl ?_
    refine pm_e_top (y := 1) (by decide +kernel) ?_
    show pm_E _ _ _ 786 [(3, .int 6), (2, .ref 18), (1, .ref 0), (0, .retAddr 0)] [.int 1] _ _ _ _
    refine pm_e_ret pm_a0_786 rfl rfl rfl rfl rfl rfl rfl rfl ?_
    exact hQ _ _ _ (by decide +kernel) (by decide +kernel)
set_option maxHeartbeats 40000000 in
set_option maxRecDepth 200000 in
theorem pm_op23 (xs : Nat → Int32) {Q : Option Value → List va_E → Nat → Nat → Prop} (hQ : ∀ ph c n, c ≤ 600000 → n ≤ 7302250 → Q (some (.int 1)) ph c n) : pm_E (some (6, xs)) 11 pm_mm0 33 pm_L0 [.int (nI 23)] pm_H0 50 194358 Q := by
  refine pm_e_top (y := 23) (by decide +kernel) ?_
  refine pm_e_tsi (t := 779) pm_a0_33 rfl (by decide +kernel) ?_
  show pm_E _ _ _ 779 [(3, .int 0), (2, .ref 18), (1, .ref 0), (0, .retAddr 0)] [] _ _ _ _
  refine pm_e_inc (y := 6) pm_a0_779 rfl (by decide +kernel) (by decide +kernel) rfl ?_
  show pm_E _ _ _ 782 [(3, .int 6), (2, .ref 18), (1, .ref 0), (0, .retAddr 0)] [] _ _ _ _
  refine pm_e_goto pm_a0_782 rfl ?_
  show pm_E _ _ _ 18 [(3, .int 6), (2, .ref 18), (1, .ref 0), (0, .retAddr 0)] [] _ _ _ _
  refine pm_e_sim pm_a0_18 rfl ?_
  show pm_E _ _ _ 19 [(3, .int 6), (2, .ref 18), (1, .ref 0), (0, .retAddr 0)] [.int 6] _ _ _ _
  refine pm_e_sim pm_a0_19 rfl ?_
  show pm_E _ _ _ 20 [(3, .int 6), (2, .ref 18), (1, .ref 0), (0, .retAddr 0)] [.retAddr 0, .int 6] _ _ _ _
  refine pm_e_rd pm_a0_20 rfl rfl rfl ?_
  dsimp only
  refine pm_e_top (y := 6) (by decide +kernel) ?_
  show pm_E _ _ _ 21 [(3, .int 6), (2, .ref 18), (1, .ref 0), (0, .retAddr 0)] [.int 6, .int 6] _ _ _ _
  refine pm_e_sim pm_a0_21 rfl ?_
  refine pm_e_top (y := 6) (by decide +kernel) ?_
  show pm_E _ _ _ 23 [(3, .int 6), (2, .ref 18), (1, .ref 0), (0, .retAddr 0)] [.int 6, .int 6, .int 6] _ _ _ _
  refine pm_e_sim pm_a0_23 rfl ?_
  refine pm_e_top (y := 0) (by decide +kernel) ?_
  show pm_E _ _ _ 24 [(3, .int 6), (2, .ref 18), (1, .ref 0), (0, .retAddr 0)] [.int 0, .int 6] _ _ _ _
  refine pm_e_ict pm_a0_24 rfl (by decide +kernel) ?_
  show pm_E _ _ _ 785 [(3, .int 6), (2, .ref 18), (1, .ref 0), (0, .retAddr 0)] [] _ _ _ _
  refine pm_e_sim pm_a0_785 rfl ?_
  refine pm_e_top (y := 1) (by decide +kernel) ?_
  show pm_E _ _ _ 786 [(3, .int 6), (2, .ref 18), (1, .ref 0), (0, .retAddr 0)] [.int 1] _ _ _ _
  refine pm_e_ret pm_a0_786 rfl rfl rfl rfl rfl rfl rfl rfl ?_
  exact hQ _ _ _ (by decide +kernel) (by decide +kernel)
