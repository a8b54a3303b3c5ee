/-! one call on a fresh object -/
set_option maxHeartbeats 40000000 in
set_option maxRecDepth 200000 in
theorem pm_op1 (xs : Nat → Int32) {Q : Option Value → List va_E → Nat → Nat → Prop} (hQ : ∀ ph c n, c ≤ 600000 → n ≤ 7302250 → Q (some (.int 1)) ph c n) : pm_E (some (6, xs)) 11 pm_mm0 33 pm_L0 [.int (nI 1)] pm_H0 50 194358 Q := by
  refine pm_e_top (y := 1) (by decide +kernel) ?_
  rcases (show (xs 1).toInt < 0 ∨ (xs 1).toInt = 0 ∨ 0 < (xs 1).toInt by omega) with h1 | h1 | h1
  · refine pm_e_tsi (t := 203) pm_a0_33 rfl (by decide +kernel) ?_
    show pm_E _ _ _ 203 [(3, .int 0), (2, .ref 18), (1, .ref 0), (0, .retAddr 0)] [] _ _ _ _
    refine pm_e_sim pm_a0_203 rfl ?_
    show pm_E _ _ _ 204 [(3, .int 0), (2, .ref 18), (1, .ref 0), (0, .retAddr 0)] [.ref 0] _ _ _ _
    refine pm_e_sim pm_a0_204 rfl ?_
    show pm_E _ _ _ 205 [(3, .int 0), (2, .ref 18), (1, .ref 0), (0, .retAddr 0)] [.retAddr 0, .ref 0] _ _ _ _
    refine pm_e_sim pm_a0_205 rfl ?_
    show pm_E _ _ _ 206 [(3, .int 0), (2, .ref 18), (1, .ref 0), (0, .retAddr 0)] [.int 0, .retAddr 0, .ref 0] _ _ _ _
    refine pm_e_sim pm_a0_206 rfl ?_
    refine pm_e_top (y := 1) (by decide +kernel) ?_
    show pm_E _ _ _ 207 [(3, .int 0), (2, .ref 18), (1, .ref 0), (0, .retAddr 0)] [.int 1, .int 0, .retAddr 0, .ref 0] _ _ _ _
    refine pm_e_sim pm_a0_207 rfl ?_
    refine pm_e_top (y := 1) (by decide +kernel) ?_
    show pm_E _ _ _ 208 [(3, .int 0), (2, .ref 18), (1, .ref 0), (0, .retAddr 0)] [.int 1, .retAddr 0, .ref 0] _ _ _ _
    refine pm_e_sld (j := 1) pm_a0_208 (by decide +kernel) ?_
    show pm_E _ _ _ 209 [(3, .int 0), (2, .ref 18), (1, .ref 0), (0, .retAddr 0)] [.int _, .ref 0] _ _ _ _
    refine pm_e_call (T2 := pm_mm10) pm_a0_209 rfl rfl rfl rfl rfl rfl rfl rfl rfl ?_
    show pm_E _ _ _ 0 [(0, .ref 0), (1, .int _)] [] _ _ _ _
    refine pm_e_sim pm_a10_0 rfl ?_
    show pm_E _ _ _ 1 [(0, .ref 0), (1, .int _)] [.int _] _ _ _ _
    refine pm_e_ift pm_a10_1 rfl (pm_z_lt_t 0 (by decide +kernel) (by omega)) ?_
    show pm_E _ _ _ 15 [(0, .ref 0), (1, .int _)] [] _ _ _ _
    refine pm_e_sim pm_a10_15 rfl ?_
    refine pm_e_top (y := (-1)) (by decide +kernel) ?_
    show pm_E _ _ _ 16 [(0, .ref 0), (1, .int _)] [.int (-1)] _ _ _ _
    refine pm_e_ret pm_a10_16 rfl rfl rfl rfl rfl rfl rfl rfl ?_
    show pm_E _ _ _ 212 [(3, .int 0), (2, .ref 18), (1, .ref 0), (0, .retAddr 0)] [.int (-1)] _ _ _ _
    refine pm_e_sim pm_a0_212 rfl ?_
    show pm_E _ _ _ 213 [(3, .int 0), (2, .ref 18), (1, .ref 0), (0, .retAddr 0)] [.ref 18, .int (-1)] _ _ _ _
    refine pm_e_sim pm_a0_213 rfl ?_
    show pm_E _ _ _ 214 [(3, .int 0), (2, .ref 18), (1, .ref 0), (0, .retAddr 0)] [.retAddr 0, .ref 18, .int (-1)] _ _ _ _
    refine pm_e_sim pm_a0_214 rfl ?_
    show pm_E _ _ _ 215 [(3, .int 0), (2, .ref 18), (1, .ref 0), (0, .retAddr 0)] [.int 0, .retAddr 0, .ref 18, .int (-1)] _ _ _ _
    refine pm_e_sim pm_a0_215 rfl ?_
    refine pm_e_top (y := 1) (by decide +kernel) ?_
    show pm_E _ _ _ 216 [(3, .int 0), (2, .ref 18), (1, .ref 0), (0, .retAddr 0)] [.int 1, .int 0, .retAddr 0, .ref 18, .int (-1)] _ _ _ _
    refine pm_e_sim pm_a0_216 rfl ?_
    refine pm_e_top (y := 1) (by decide +kernel) ?_
    show pm_E _ _ _ 217 [(3, .int 0), (2, .ref 18), (1, .ref 0), (0, .retAddr 0)] [.int 1, .retAddr 0, .ref 18, .int (-1)] _ _ _ _
    refine pm_e_sld (j := 1) pm_a0_217 (by decide +kernel) ?_
    show pm_E _ _ _ 218 [(3, .int 0), (2, .ref 18), (1, .ref 0), (0, .retAddr 0)] [.int _, .ref 18, .int (-1)] _ _ _ _
    refine pm_e_call (T2 := pm_mm49) pm_a0_218 rfl rfl rfl rfl rfl rfl rfl rfl rfl ?_
    show pm_E _ _ _ 0 [(0, .ref 18), (1, .int _)] [] _ _ _ _
    refine pm_e_sim pm_a49_0 rfl ?_
    show pm_E _ _ _ 1 [(0, .ref 18), (1, .int _)] [.int _] _ _ _ _
    refine pm_e_sim pm_a49_1 rfl ?_
    show pm_E _ _ _ 2 [(0, .ref 18), (1, .int _)] [.long _] _ _ _ _
    refine pm_e_sim pm_a49_2 rfl ?_
    show pm_E _ _ _ 3 [(0, .ref 18), (1, .int _)] [.long _, .long _] _ _ _ _
    refine pm_e_sim pm_a49_3 rfl ?_
    show pm_E _ _ _ 4 [(0, .ref 18), (1, .int _)] [.ref 18, .long _, .long _] _ _ _ _
    refine pm_e_rd pm_a49_4 rfl rfl rfl ?_
    show pm_E _ _ _ 7 [(0, .ref 18), (1, .int _)] [.int 0, .long _, .long _] _ _ _ _
    refine pm_e_sim pm_a49_7 rfl ?_
    show pm_E _ _ _ 8 [(0, .ref 18), (1, .int _)] [.long _, .long _, .long _] _ _ _ _
    refine pm_e_call (T2 := pm_mm50) pm_a49_8 rfl rfl rfl rfl rfl rfl rfl rfl rfl ?_
    show pm_E _ _ _ 0 [(0, .long _), (2, .long _), (4, .long _)] [] _ _ _ _
    refine pm_e_sim pm_a50_0 rfl ?_
    show pm_E _ _ _ 1 [(0, .long _), (2, .long _), (4, .long _)] [.long _] _ _ _ _
    refine pm_e_sim pm_a50_1 rfl ?_
    show pm_E _ _ _ 2 [(0, .long _), (2, .long _), (4, .long _)] [.long _, .long _] _ _ _ _
    refine pm_e_sim pm_a50_2 rfl ?_
    show pm_E _ _ _ 3 [(0, .long _), (2, .long _), (4, .long _)] [.int _] _ _ _ _
    refine pm_e_ift pm_a50_3 rfl (pm_zl_lt 0 (by decide +kernel) (by omega) (by decide +kernel)) ?_
    show pm_E _ _ _ 17 [(0, .long _), (2, .long _), (4, .long _)] [] _ _ _ _
    refine pm_e_sim pm_a50_17 rfl ?_
    refine pm_e_top (y := 0) (by decide +kernel) ?_
    show pm_E _ _ _ 18 [(0, .long _), (2, .long _), (4, .long _)] [.int 0] _ _ _ _
    refine pm_e_ret pm_a50_18 rfl rfl rfl rfl rfl rfl rfl rfl ?_
    show pm_E _ _ _ 11 [(0, .ref 18), (1, .int _)] [.int 0] _ _ _ _
    refine pm_e_iff pm_a49_11 rfl (by decide +kernel) ?_
    show pm_E _ _ _ 14 [(0, .ref 18), (1, .int _)] [] _ _ _ _
    refine pm_e_sim pm_a49_14 rfl ?_
    refine pm_e_top (y := (-1)) (by decide +kernel) ?_
    show pm_E _ _ _ 15 [(0, .ref 18), (1, .int _)] [.int (-1)] _ _ _ _
    refine pm_e_ret pm_a49_15 rfl rfl rfl rfl rfl rfl rfl rfl ?_
    show pm_E _ _ _ 221 [(3, .int 0), (2, .ref 18), (1, .ref 0), (0, .retAddr 0)] [.int (-1), .int (-1)] _ _ _ _
    refine pm_e_ict pm_a0_221 rfl (by decide +kernel) ?_
    show pm_E _ _ _ 779 [(3, .int 0), (2, .ref 18), (1, .ref 0), (0, .retAddr 0)] [] _ _ _ _
    refine pm_e_inc (y := 6) pm_a0_779 rfl (by decide +kernel) (by decide +kernel) rfl ?_
    show pm_E _ _ _ 782 [(3, .int 6), (2, .ref 18), (1, .ref 0), (0, .retAddr 0)] [] _ _ _ _
    refine pm_e_goto pm_a0_782 rfl ?_
    show pm_E _ _ _ 18 [(3, .int 6), (2, .ref 18), (1, .ref 0), (0, .retAddr 0)] [] _ _ _ _
    refine pm_e_sim pm_a0_18 rfl ?_
    show pm_E _ _ _ 19 [(3, .int 6), (2, .ref 18), (1, .ref 0), (0, .retAddr 0)] [.int 6] _ _ _ _
    refine pm_e_sim pm_a0_19 rfl ?_
    show pm_E _ _ _ 20 [(3, .int 6), (2, .ref 18), (1, .ref 0), (0, .retAddr 0)] [.retAddr 0, .int 6] _ _ _ _
    refine pm_e_rd pm_a0_20 rfl rfl rfl ?_
    dsimp only
    refine pm_e_top (y := 6) (by decide +kernel) ?_
    show pm_E _ _ _ 21 [(3, .int 6), (2, .ref 18), (1, .ref 0), (0, .retAddr 0)] [.int 6, .int 6] _ _ _ _
    refine pm_e_sim pm_a0_21 rfl ?_
    refine pm_e_top (y := 6) (by decide +kernel) ?_
    show pm_E _ _ _ 23 [(3, .int 6), (2, .ref 18), (1, .ref 0), (0, .retAddr 0)] [.int 6, .int 6, .int 6] _ _ _ _
    refine pm_e_sim pm_a0_23 rfl ?_
    refine pm_e_top (y := 0) (by decide +kernel) ?_
    show pm_E _ _ _ 24 [(3, .int 6), (2, .ref 18), (1, .ref 0), (0, .retAddr 0)] [.int 0, .int 6] _ _ _ _
    refine pm_e_ict pm_a0_24 rfl (by decide +kernel) ?_
    show pm_E _ _ _ 785 [(3, .int 6), (2, .ref 18), (1, .ref 0), (0, .retAddr 0)] [] _ _ _ _
    refine pm_e_sim pm_a0_785 rfl ?_
    refine pm_e_top (y := 1) (by decide +kernel) ?_
    show pm_E _ _ _ 786 [(3, .int 6), (2, .ref 18), (1, .ref 0), (0, .retAddr 0)] [.int 1] _ _ _ _
    refine pm_e_ret pm_a0_786 rfl rfl rfl rfl rfl rfl rfl rfl ?_
    exact hQ _ _ _ (by decide +kernel) (by decide +kernel)
  · refine pm_e_tsi (t := 203) pm_a0_33 rfl (by decide +kernel) ?_
    show pm_E _ _ _ 203 [(3, .int 0), (2, .ref 18), (1, .ref 0), (0, .retAddr 0)] [] _ _ _ _
    refine pm_e_sim pm_a0_203 rfl ?_
    show pm_E _ _ _ 204 [(3, .int 0), (2, .ref 18), (1, .ref 0), (0, .retAddr 0)] [.ref 0] _ _ _ _
    refine pm_e_sim pm_a0_204 rfl ?_
    show pm_E _ _ _ 205 [(3, .int 0), (2, .ref 18), (1, .ref 0), (0, .retAddr 0)] [.retAddr 0, .ref 0] _ _ _ _
    refine pm_e_sim pm_a0_205 rfl ?_
    show pm_E _ _ _ 206 [(3, .int 0), (2, .ref 18), (1, .ref 0), (0, .retAddr 0)] [.int 0, .retAddr 0, .ref 0] _ _ _ _
    refine pm_e_sim pm_a0_206 rfl ?_
    refine pm_e_top (y := 1) (by decide +kernel) ?_
    show pm_E _ _ _ 207 [(3, .int 0), (2, .ref 18), (1, .ref 0), (0, .retAddr 0)] [.int 1, .int 0, .retAddr 0, .ref 0] _ _ _ _
    refine pm_e_sim pm_a0_207 rfl ?_
    refine pm_e_top (y := 1) (by decide +kernel) ?_
    show pm_E _ _ _ 208 [(3, .int 0), (2, .ref 18), (1, .ref 0), (0, .retAddr 0)] [.int 1, .retAddr 0, .ref 0] _ _ _ _
    refine pm_e_sld (j := 1) pm_a0_208 (by decide +kernel) ?_
    show pm_E _ _ _ 209 [(3, .int 0), (2, .ref 18), (1, .ref 0), (0, .retAddr 0)] [.int _, .ref 0] _ _ _ _
    refine pm_e_call (T2 := pm_mm10) pm_a0_209 rfl rfl rfl rfl rfl rfl rfl rfl rfl ?_
    show pm_E _ _ _ 0 [(0, .ref 0), (1, .int _)] [] _ _ _ _
    refine pm_e_sim pm_a10_0 rfl ?_
    show pm_E _ _ _ 1 [(0, .ref 0), (1, .int _)] [.int _] _ _ _ _
    refine pm_e_iff pm_a10_1 rfl (pm_z_lt_f 0 (by decide +kernel) (by omega)) ?_
    show pm_E _ _ _ 4 [(0, .ref 0), (1, .int _)] [] _ _ _ _
    refine pm_e_sim pm_a10_4 rfl ?_
    show pm_E _ _ _ 5 [(0, .ref 0), (1, .int _)] [.int _] _ _ _ _
    refine pm_e_sim pm_a10_5 rfl ?_
    show pm_E _ _ _ 6 [(0, .ref 0), (1, .int _)] [.ref 0, .int _] _ _ _ _
    refine pm_e_rd pm_a10_6 rfl rfl rfl ?_
    show pm_E _ _ _ 9 [(0, .ref 0), (1, .int _)] [.ref 1, .int _] _ _ _ _
    refine pm_e_rd pm_a10_9 rfl rfl rfl ?_
    show pm_E _ _ _ 12 [(0, .ref 0), (1, .int _)] [.int 0, .int _] _ _ _ _
    refine pm_e_ict pm_a10_12 rfl (pm_z_le_t 0 (by decide +kernel) (by omega)) ?_
    show pm_E _ _ _ 17 [(0, .ref 0), (1, .int _)] [] _ _ _ _
    refine pm_e_sim pm_a10_17 rfl ?_
    show pm_E _ _ _ 18 [(0, .ref 0), (1, .int _)] [.ref 0] _ _ _ _
    refine pm_e_rd pm_a10_18 rfl rfl rfl ?_
    show pm_E _ _ _ 21 [(0, .ref 0), (1, .int _)] [.ref 1] _ _ _ _
    refine pm_e_rd pm_a10_21 rfl rfl rfl ?_
    show pm_E _ _ _ 24 [(0, .ref 0), (1, .int _)] [.int 0] _ _ _ _
    refine pm_e_sim pm_a10_24 rfl ?_
    show pm_E _ _ _ 25 [(2, .int 0), (0, .ref 0), (1, .int _)] [] _ _ _ _
    refine pm_e_sim pm_a10_25 rfl ?_
    show pm_E _ _ _ 26 [(2, .int 0), (0, .ref 0), (1, .int _)] [.ref 0] _ _ _ _
    refine pm_e_rd pm_a10_26 rfl rfl rfl ?_
    show pm_E _ _ _ 29 [(2, .int 0), (0, .ref 0), (1, .int _)] [.ref 1] _ _ _ _
    refine pm_e_sim pm_a10_29 rfl ?_
    show pm_E _ _ _ 30 [(2, .int 0), (0, .ref 0), (1, .int _)] [.int _, .ref 1] _ _ _ _
    refine pm_e_wr pm_a10_30 rfl rfl rfl rfl rfl ?_
    show pm_E _ _ _ 33 [(2, .int 0), (0, .ref 0), (1, .int _)] [] (pm_H0.set 1 (.inr (4, [.ref 2, .int _]))) _ _ _
    refine pm_e_sim pm_a10_33 rfl ?_
    show pm_E _ _ _ 34 [(2, .int 0), (0, .ref 0), (1, .int _)] [.int 0] _ _ _ _
    refine pm_e_ret pm_a10_34 rfl rfl rfl rfl rfl rfl rfl rfl ?_
    show pm_E _ _ _ 212 [(3, .int 0), (2, .ref 18), (1, .ref 0), (0, .retAddr 0)] [.int 0] _ _ _ _
    refine pm_e_sim pm_a0_212 rfl ?_
    show pm_E _ _ _ 213 [(3, .int 0), (2, .ref 18), (1, .ref 0), (0, .retAddr 0)] [.ref 18, .int 0] _ _ _ _
    refine pm_e_sim pm_a0_213 rfl ?_
    show pm_E _ _ _ 214 [(3, .int 0), (2, .ref 18), (1, .ref 0), (0, .retAddr 0)] [.retAddr 0, .ref 18, .int 0] _ _ _ _
    refine pm_e_sim pm_a0_214 rfl ?_
    show pm_E _ _ _ 215 [(3, .int 0), (2, .ref 18), (1, .ref 0), (0, .retAddr 0)] [.int 0, .retAddr 0, .ref 18, .int 0] _ _ _ _
    refine pm_e_sim pm_a0_215 rfl ?_
    refine pm_e_top (y := 1) (by decide +kernel) ?_
    show pm_E _ _ _ 216 [(3, .int 0), (2, .ref 18), (1, .ref 0), (0, .retAddr 0)] [.int 1, .int 0, .retAddr 0, .ref 18, .int 0] _ _ _ _
    refine pm_e_sim pm_a0_216 rfl ?_
    refine pm_e_top (y := 1) (by decide +kernel) ?_
    show pm_E _ _ _ 217 [(3, .int 0), (2, .ref 18), (1, .ref 0), (0, .retAddr 0)] [.int 1, .retAddr 0, .ref 18, .int 0] _ _ _ _
    refine pm_e_sld (j := 1) pm_a0_217 (by decide +kernel) ?_
    show pm_E _ _ _ 218 [(3, .int 0), (2, .ref 18), (1, .ref 0), (0, .retAddr 0)] [.int _, .ref 18, .int 0] _ _ _ _
    refine pm_e_call (T2 := pm_mm49) pm_a0_218 rfl rfl rfl rfl rfl rfl rfl rfl rfl ?_
    show pm_E _ _ _ 0 [(0, .ref 18), (1, .int _)] [] _ _ _ _
    refine pm_e_sim pm_a49_0 rfl ?_
    show pm_E _ _ _ 1 [(0, .ref 18), (1, .int _)] [.int _] _ _ _ _
    refine pm_e_sim pm_a49_1 rfl ?_
    show pm_E _ _ _ 2 [(0, .ref 18), (1, .int _)] [.long _] _ _ _ _
    refine pm_e_sim pm_a49_2 rfl ?_
    show pm_E _ _ _ 3 [(0, .ref 18), (1, .int _)] [.long _, .long _] _ _ _ _
    refine pm_e_sim pm_a49_3 rfl ?_
    show pm_E _ _ _ 4 [(0, .ref 18), (1, .int _)] [.ref 18, .long _, .long _] _ _ _ _
    refine pm_e_rd pm_a49_4 rfl rfl rfl ?_
    show pm_E _ _ _ 7 [(0, .ref 18), (1, .int _)] [.int 0, .long _, .long _] _ _ _ _
    refine pm_e_sim pm_a49_7 rfl ?_
    show pm_E _ _ _ 8 [(0, .ref 18), (1, .int _)] [.long _, .long _, .long _] _ _ _ _
    refine pm_e_call (T2 := pm_mm50) pm_a49_8 rfl rfl rfl rfl rfl rfl rfl rfl rfl ?_
    show pm_E _ _ _ 0 [(0, .long _), (2, .long _), (4, .long _)] [] _ _ _ _
    refine pm_e_sim pm_a50_0 rfl ?_
    show pm_E _ _ _ 1 [(0, .long _), (2, .long _), (4, .long _)] [.long _] _ _ _ _
    refine pm_e_sim pm_a50_1 rfl ?_
    show pm_E _ _ _ 2 [(0, .long _), (2, .long _), (4, .long _)] [.long _, .long _] _ _ _ _
    refine pm_e_sim pm_a50_2 rfl ?_
    show pm_E _ _ _ 3 [(0, .long _), (2, .long _), (4, .long _)] [.int _] _ _ _ _
    refine pm_e_iff pm_a50_3 rfl (pm_zl_eq 0 (by decide +kernel) (by omega) (by decide +kernel)) ?_
    show pm_E _ _ _ 6 [(0, .long _), (2, .long _), (4, .long _)] [] _ _ _ _
    refine pm_e_sim pm_a50_6 rfl ?_
    show pm_E _ _ _ 7 [(0, .long _), (2, .long _), (4, .long _)] [.long _] _ _ _ _
    refine pm_e_sim pm_a50_7 rfl ?_
    show pm_E _ _ _ 9 [(0, .long _), (2, .long _), (4, .long _)] [.long _, .long _] _ _ _ _
    refine pm_e_sim pm_a50_9 rfl ?_
    show pm_E _ _ _ 10 [(0, .long _), (2, .long _), (4, .long _)] [.int _] _ _ _ _
    refine pm_e_iff pm_a50_10 rfl (pm_zl_eq 0 (by decide +kernel) (by omega) (by decide +kernel)) ?_
    show pm_E _ _ _ 13 [(0, .long _), (2, .long _), (4, .long _)] [] _ _ _ _
    refine pm_e_sim pm_a50_13 rfl ?_
    refine pm_e_top (y := 1) (by decide +kernel) ?_
    show pm_E _ _ _ 14 [(0, .long _), (2, .long _), (4, .long _)] [.int 1] _ _ _ _
    refine pm_e_goto pm_a50_14 rfl ?_
    show pm_E _ _ _ 18 [(0, .long _), (2, .long _), (4, .long _)] [.int 1] _ _ _ _
    refine pm_e_ret pm_a50_18 rfl rfl rfl rfl rfl rfl rfl rfl ?_
    show pm_E _ _ _ 11 [(0, .ref 18), (1, .int _)] [.int 1] _ _ _ _
    refine pm_e_ift pm_a49_11 rfl (by decide +kernel) ?_
    show pm_E _ _ _ 16 [(0, .ref 18), (1, .int _)] [] _ _ _ _
    refine pm_e_sim pm_a49_16 rfl ?_
    show pm_E _ _ _ 17 [(0, .ref 18), (1, .int _)] [.ref 18] _ _ _ _
    refine pm_e_rd pm_a49_17 rfl rfl rfl ?_
    show pm_E _ _ _ 20 [(0, .ref 18), (1, .int _)] [.int 0] _ _ _ _
    refine pm_e_sim pm_a49_20 rfl ?_
    show pm_E _ _ _ 21 [(2, .int 0), (0, .ref 18), (1, .int _)] [] _ _ _ _
    refine pm_e_sim pm_a49_21 rfl ?_
    show pm_E _ _ _ 22 [(2, .int 0), (0, .ref 18), (1, .int _)] [.ref 18] _ _ _ _
    refine pm_e_sim pm_a49_22 rfl ?_
    show pm_E _ _ _ 23 [(2, .int 0), (0, .ref 18), (1, .int _)] [.int _, .ref 18] _ _ _ _
    refine pm_e_wr pm_a49_23 rfl rfl rfl rfl rfl ?_
    show pm_E _ _ _ 26 [(2, .int 0), (0, .ref 18), (1, .int _)] [] ((pm_H0.set 1 (.inr (4, [.ref 2, .int _]))).set 18 (.inr (9, pm_f9.set 4 (.int _)))) _ _ _
    refine pm_e_sim pm_a49_26 rfl ?_
    show pm_E _ _ _ 27 [(2, .int 0), (0, .ref 18), (1, .int _)] [.int 0] _ _ _ _
    refine pm_e_ret pm_a49_27 rfl rfl rfl rfl rfl rfl rfl rfl ?_
    show pm_E _ _ _ 221 [(3, .int 0), (2, .ref 18), (1, .ref 0), (0, .retAddr 0)] [.int 0, .int 0] _ _ _ _
    refine pm_e_ict pm_a0_221 rfl (by decide +kernel) ?_
    show pm_E _ _ _ 779 [(3, .int 0), (2, .ref 18), (1, .ref 0), (0, .retAddr 0)] [] _ _ _ _
    refine pm_e_inc (y := 6) pm_a0_779 rfl (by decide +kernel) (by decide +kernel) rfl ?_
    show pm_E _ _ _ 782 [(3, .int 6), (2, .ref 18), (1, .ref 0), (0, .retAddr 0)] [] _ _ _ _
    refine pm_e_goto pm_a0_782 rfl ?_
    show pm_E _ _ _ 18 [(3, .int 6), (2, .ref 18), (1, .ref 0), (0, .retAddr 0)] [] _ _ _ _
    refine pm_e_sim pm_a0_18 rfl ?_
    show pm_E _ _ _ 19 [(3, .int 6), (2, .ref 18), (1, .ref 0), (0, .retAddr 0)] [.int 6] _ _ _ _
    refine pm_e_sim pm_a0_19 rfl ?_
    show pm_E _ _ _ 20 [(3, .int 6), (2, .ref 18), (1, .ref 0), (0, .retAddr 0)] [.retAddr 0, .int 6] _ _ _ _
    refine pm_e_rd pm_a0_20 rfl rfl rfl ?_
    dsimp only
    refine pm_e_top (y := 6) (by decide +kernel) ?_
    show pm_E _ _ _ 21 [(3, .int 6), (2, .ref 18), (1, .ref 0), (0, .retAddr 0)] [.int 6, .int 6] _ _ _ _
    refine pm_e_sim pm_a0_21 rfl ?_
    refine pm_e_top (y := 6) (by decide +kernel) ?_
    show pm_E _ _ _ 23 [(3, .int 6), (2, .ref 18), (1, .ref 0), (0, .retAddr 0)] [.int 6, .int 6, .int 6] _ _ _ _
    refine pm_e_sim pm_a0_23 rfl ?_
    refine pm_e_top (y := 0) (by decide +kernel) ?_
    show pm_E _ _ _ 24 [(3, .int 6), (2, .ref 18), (1, .ref 0), (0, .retAddr 0)] [.int 0, .int 6] _ _ _ _
    refine pm_e_ict pm_a0_24 rfl (by decide +kernel) ?_
    show pm_E _ _ _ 785 [(3, .int 6), (2, .ref 18), (1, .ref 0), (0, .retAddr 0)] [] _ _ _ _
    refine pm_e_sim pm_a0_785 rfl ?_
    refine pm_e_top (y := 1) (by decide +kernel) ?_
    show pm_E _ _ _ 786 [(3, .int 6), (2, .ref 18), (1, .ref 0), (0, .retAddr 0)] [.int 1] _ _ _ _
    refine pm_e_ret pm_a0_786 rfl rfl rfl rfl rfl rfl rfl rfl ?_
    exact hQ _ _ _ (by decide +kernel) (by decide +kernel)
  · refine pm_e_tsi (t := 203) pm_a0_33 rfl (by decide +kernel) ?_
    show pm_E _ _ _ 203 [(3, .int 0), (2, .ref 18), (1, .ref 0), (0, .retAddr 0)] [] _ _ _ _
    refine pm_e_sim pm_a0_203 rfl ?_
    show pm_E _ _ _ 204 [(3, .int 0), (2, .ref 18), (1, .ref 0), (0, .retAddr 0)] [.ref 0] _ _ _ _
    refine pm_e_sim pm_a0_204 rfl ?_
    show pm_E _ _ _ 205 [(3, .int 0), (2, .ref 18), (1, .ref 0), (0, .retAddr 0)] [.retAddr 0, .ref 0] _ _ _ _
    refine pm_e_sim pm_a0_205 rfl ?_
    show pm_E _ _ _ 206 [(3, .int 0), (2, .ref 18), (1, .ref 0), (0, .retAddr 0)] [.int 0, .retAddr 0, .ref 0] _ _ _ _
    refine pm_e_sim pm_a0_206 rfl ?_
    refine pm_e_top (y := 1) (by decide +kernel) ?_
    show pm_E _ _ _ 207 [(3, .int 0), (2, .ref 18), (1, .ref 0), (0, .retAddr 0)] [.int 1, .int 0, .retAddr 0, .ref 0] _ _ _ _
    refine pm_e_sim pm_a0_207 rfl ?_
    refine pm_e_top (y := 1) (by decide +kernel) ?_
    show pm_E _ _ _ 208 [(3, .int 0), (2, .ref 18), (1, .ref 0), (0, .retAddr 0)] [.int 1, .retAddr 0, .ref 0] _ _ _ _
    refine pm_e_sld (j := 1) pm_a0_208 (by decide +kernel) ?_
    show pm_E _ _ _ 209 [(3, .int 0), (2, .ref 18), (1, .ref 0), (0, .retAddr 0)] [.int _, .ref 0] _ _ _ _
    refine pm_e_call (T2 := pm_mm10) pm_a0_209 rfl rfl rfl rfl rfl rfl rfl rfl rfl ?_
    show pm_E _ _ _ 0 [(0, .ref 0), (1, .int _)] [] _ _ _ _
    refine pm_e_sim pm_a10_0 rfl ?_
    show pm_E _ _ _ 1 [(0, .ref 0), (1, .int _)] [.int _] _ _ _ _
    refine pm_e_iff pm_a10_1 rfl (pm_z_lt_f 0 (by decide +kernel) (by omega)) ?_
    show pm_E _ _ _ 4 [(0, .ref 0), (1, .int _)] [] _ _ _ _
    refine pm_e_sim pm_a10_4 rfl ?_
    show pm_E _ _ _ 5 [(0, .ref 0), (1, .int _)] [.int _] _ _ _ _
    refine pm_e_sim pm_a10_5 rfl ?_
    show pm_E _ _ _ 6 [(0, .ref 0), (1, .int _)] [.ref 0, .int _] _ _ _ _
    refine pm_e_rd pm_a10_6 rfl rfl rfl ?_
    show pm_E _ _ _ 9 [(0, .ref 0), (1, .int _)] [.ref 1, .int _] _ _ _ _
    refine pm_e_rd pm_a10_9 rfl rfl rfl ?_
    show pm_E _ _ _ 12 [(0, .ref 0), (1, .int _)] [.int 0, .int _] _ _ _ _
    refine pm_e_icf pm_a10_12 rfl (pm_z_le_f 0 (by decide +kernel) (by omega)) ?_
    show pm_E _ _ _ 15 [(0, .ref 0), (1, .int _)] [] _ _ _ _
    refine pm_e_sim pm_a10_15 rfl ?_
    refine pm_e_top (y := (-1)) (by decide +kernel) ?_
    show pm_E _ _ _ 16 [(0, .ref 0), (1, .int _)] [.int (-1)] _ _ _ _
    refine pm_e_ret pm_a10_16 rfl rfl rfl rfl rfl rfl rfl rfl ?_
    show pm_E _ _ _ 212 [(3, .int 0), (2, .ref 18), (1, .ref 0), (0, .retAddr 0)] [.int (-1)] _ _ _ _
    refine pm_e_sim pm_a0_212 rfl ?_
    show pm_E _ _ _ 213 [(3, .int 0), (2, .ref 18), (1, .ref 0), (0, .retAddr 0)] [.ref 18, .int (-1)] _ _ _ _
    refine pm_e_sim pm_a0_213 rfl ?_
    show pm_E _ _ _ 214 [(3, .int 0), (2, .ref 18), (1, .ref 0), (0, .retAddr 0)] [.retAddr 0, .ref 18, .int (-1)] _ _ _ _
    refine pm_e_sim pm_a0_214 rfl ?_
    show pm_E _ _ _ 215 [(3, .int 0), (2, .ref 18), (1, .ref 0), (0, .retAddr 0)] [.int 0, .retAddr 0, .ref 18, .int (-1)] _ _ _ _
    refine pm_e_sim pm_a0_215 rfl ?_
    refine pm_e_top (y := 1) (by decide +kernel) ?_
    show pm_E _ _ _ 216 [(3, .int 0), (2, .ref 18), (1, .ref 0), (0, .retAddr 0)] [.int 1, .int 0, .retAddr 0, .ref 18, .int (-1)] _ _ _ _
    refine pm_e_sim pm_a0_216 rfl ?_
    refine pm_e_top (y := 1) (by decide +kernel) ?_
    show pm_E _ _ _ 217 [(3, .int 0), (2, .ref 18), (1, .ref 0), (0, .retAddr 0)] [.int 1, .retAddr 0, .ref 18, .int (-1)] _ _ _ _
    refine pm_e_sld (j := 1) pm_a0_217 (by decide +kernel) ?_
    show pm_E _ _ _ 218 [(3, .int 0), (2, .ref 18), (1, .ref 0), (0, .retAddr 0)] [.int _, .ref 18, .int (-1)] _ _ _ _
    refine pm_e_call (T2 := pm_mm49) pm_a0_218 rfl rfl rfl rfl rfl rfl rfl rfl rfl ?_
    show pm_E _ _ _ 0 [(0, .ref 18), (1, .int _)] [] _ _ _ _
    refine pm_e_sim pm_a49_0 rfl ?_
    show pm_E _ _ _ 1 [(0, .ref 18), (1, .int _)] [.int _] _ _ _ _
    refine pm_e_sim pm_a49_1 rfl ?_
    show pm_E _ _ _ 2 [(0, .ref 18), (1, .int _)] [.long _] _ _ _ _
    refine pm_e_sim pm_a49_2 rfl ?_
    show pm_E _ _ _ 3 [(0, .ref 18), (1, .int _)] [.long _, .long _] _ _ _ _
    refine pm_e_sim pm_a49_3 rfl ?_
    show pm_E _ _ _ 4 [(0, .ref 18), (1, .int _)] [.ref 18, .long _, .long _] _ _ _ _
    refine pm_e_rd pm_a49_4 rfl rfl rfl ?_
    show pm_E _ _ _ 7 [(0, .ref 18), (1, .int _)] [.int 0, .long _, .long _] _ _ _ _
    refine pm_e_sim pm_a49_7 rfl ?_
    show pm_E _ _ _ 8 [(0, .ref 18), (1, .int _)] [.long _, .long _, .long _] _ _ _ _
    refine pm_e_call (T2 := pm_mm50) pm_a49_8 rfl rfl rfl rfl rfl rfl rfl rfl rfl ?_
    show pm_E _ _ _ 0 [(0, .long _), (2, .long _), (4, .long _)] [] _ _ _ _
    refine pm_e_sim pm_a50_0 rfl ?_
    show pm_E _ _ _ 1 [(0, .long _), (2, .long _), (4, .long _)] [.long _] _ _ _ _
    refine pm_e_sim pm_a50_1 rfl ?_
    show pm_E _ _ _ 2 [(0, .long _), (2, .long _), (4, .long _)] [.long _, .long _] _ _ _ _
    refine pm_e_sim pm_a50_2 rfl ?_
    show pm_E _ _ _ 3 [(0, .long _), (2, .long _), (4, .long _)] [.int _] _ _ _ _
    refine pm_e_iff pm_a50_3 rfl (pm_zl_gt 0 (by decide +kernel) (by omega) (by decide +kernel)) ?_
    show pm_E _ _ _ 6 [(0, .long _), (2, .long _), (4, .long _)] [] _ _ _ _
    refine pm_e_sim pm_a50_6 rfl ?_
    show pm_E _ _ _ 7 [(0, .long _), (2, .long _), (4, .long _)] [.long _] _ _ _ _
    refine pm_e_sim pm_a50_7 rfl ?_
    show pm_E _ _ _ 9 [(0, .long _), (2, .long _), (4, .long _)] [.long _, .long _] _ _ _ _
    refine pm_e_sim pm_a50_9 rfl ?_
    show pm_E _ _ _ 10 [(0, .long _), (2, .long _), (4, .long _)] [.int _] _ _ _ _
    refine pm_e_ift pm_a50_10 rfl (pm_zl_gt 0 (by decide +kernel) (by omega) (by decide +kernel)) ?_
    show pm_E _ _ _ 17 [(0, .long _), (2, .long _), (4, .long _)] [] _ _ _ _
    refine pm_e_sim pm_a50_17 rfl ?_
    refine pm_e_top (y := 0) (by decide +kernel) ?_
    show pm_E _ _ _ 18 [(0, .long _), (2, .long _), (4, .long _)] [.int 0] _ _ _ _
    refine pm_e_ret pm_a50_18 rfl rfl rfl rfl rfl rfl rfl rfl ?_
    show pm_E _ _ _ 11 [(0, .ref 18), (1, .int _)] [.int 0] _ _ _ _
    refine pm_e_iff pm_a49_11 rfl (by decide +kernel) ?_
    show pm_E _ _ _ 14 [(0, .ref 18), (1, .int _)] [] _ _ _ _
    refine pm_e_sim pm_a49_14 rfl ?_
    refine pm_e_top (y := (-1)) (by decide +kernel) ?_
    show pm_E _ _ _ 15 [(0, .ref 18), (1, .int _)] [.int (-1)] _ _ _ _
    refine pm_e_ret pm_a49_15 rfl rfl rfl rfl rfl rfl rfl rfl ?_
    show pm_E _ _ _ 221 [(3, .int 0), (2, .ref 18), (1, .ref 0), (0, .retAddr 0)] [.int (-1), .int (-1)] _ _ _ _
    refine pm_e_ict pm_a0_221 rfl (by decide +kernel) ?_
    show pm_E _ _ _ 779 [(3, .int 0), (2, .ref 18), (1, .ref 0), (0, .retAddr 0)] [] _ _ _ _
    refine pm_e_inc (y := 6) pm_a0_779 rfl (by decide +kernel) (by decide +kernel) rfl ?_
    show pm_E _ _ _ 782 [(3, .int 6), (2, .ref 18), (1, .ref 0), (0, .retAddr 0)] [] _ _ _ _
    refine pm_e_goto pm_a0_782 rfl ?_
    show pm_E _ _ _ 18 [(3, .int 6), (2, .ref 18), (1, .ref 0), (0, .retAddr 0)] [] _ _ _ _
    refine pm_e_sim pm_a0_18 rfl ?_
    show pm_E _ _ _ 19 [(3, .int 6), (2, .ref 18), (1, .ref 0), (0, .retAddr 0)] [.int 6] _ _ _ _
    refine pm_e_sim pm_a0_19 rfl ?_
    show pm_E _ _ _ 20 [(3, .int 6), (2, .ref 18), (1, .ref 0), (0, .retAddr 0)] [.retAddr 0, .int 6] _ _ _ _
    refine pm_e_rd pm_a0_20 rfl rfl rfl ?_
    dsimp only
    refine pm_e_top (y := 6) (by decide +kernel) ?_
    show pm_E _ _ _ 21 [(3, .int 6), (2, .ref 18), (1, .ref 0), (0, .retAddr 0)] [.int 6, .int 6] _ _ _ _
    refine pm_e_sim pm_a0_21 rfl ?_
    refine pm_e_top (y := 6) (by decide +kernel) ?_
    show pm_E _ _ _ 23 [(3, .int 6), (2, .ref 18), (1, .ref 0), (0, .retAddr 0)] [.int 6, .int 6, .int 6] _ _ _ _
    refine pm_e_sim pm_a0_23 rfl ?_
    refine pm_e_top (y := 0) (by decide +kernel) ?_
    show pm_E _ _ _ 24 [(3, .int 6), (2, .ref 18), (1, .ref 0), (0, .retAddr 0)] [.int 0, .int 6] _ _ _ _
    refine pm_e_ict pm_a0_24 rfl (by decide +kernel) ?_
    show pm_E _ _ _ 785 [(3, .int 6), (2, .ref 18), (1, .ref 0), (0, .retAddr 0)] [] _ _ _ _
    refine pm_e_sim pm_a0_785 rfl ?_
    refine pm_e_top (y := 1) (by decide +kernel) ?_
    show pm_E _ _ _ 786 [(3, .int 6), (2, .ref 18), (1, .ref 0), (0, .retAddr 0)] [.int 1] _ _ _ _
    refine pm_e_ret pm_a0_786 rfl rfl rfl rfl rfl rfl rfl rfl ?_
    exact hQ _ _ _ (by decide +kernel) (by decide +kernel)
set_option maxHeartbeats 40000000 in
set_option maxRecDepth 200000 in
theorem pm_op3 (xs : Nat → Int32) {Q : Option Value → List va_E → Nat → Nat → Prop} (hQ : ∀ ph c n, c ≤ 600000 → n ≤ 7302250 → Q (some (.int 1)) ph c n) : pm_E (some (6, xs)) 11 pm_mm0 33 pm_L0 [.int (nI 3)] pm_H0 50 194358 Q := by
  refine pm_e_top (y := 3) (by decide +kernel) ?_
  refine pm_e_tsi (t := 239) pm_a0_33 rfl (by decide +kernel) ?_
  show pm_E _ _ _ 239 [(3, .int 0), (2, .ref 18), (1, .ref 0), (0, .retAddr 0)] [] _ _ _ _
  refine pm_e_sim pm_a0_239 rfl ?_
  show pm_E _ _ _ 240 [(3, .int 0), (2, .ref 18), (1, .ref 0), (0, .retAddr 0)] [.ref 0] _ _ _ _
  refine pm_e_call (T2 := pm_mm24) pm_a0_240 rfl rfl rfl rfl rfl rfl rfl rfl rfl ?_
  show pm_E _ _ _ 0 [(0, .ref 0)] [] _ _ _ _
  refine pm_e_sim pm_a24_0 rfl ?_
  show pm_E _ _ _ 1 [(0, .ref 0)] [.ref 0] _ _ _ _
  refine pm_e_rd pm_a24_1 rfl rfl rfl ?_
  show pm_E _ _ _ 4 [(0, .ref 0)] [.int 0] _ _ _ _
  refine pm_e_ret pm_a24_4 rfl rfl rfl rfl rfl rfl rfl rfl ?_
  show pm_E _ _ _ 243 [(3, .int 0), (2, .ref 18), (1, .ref 0), (0, .retAddr 0)] [.int 0] _ _ _ _
  refine pm_e_sim pm_a0_243 rfl ?_
  show pm_E _ _ _ 244 [(3, .int 0), (2, .ref 18), (1, .ref 0), (0, .retAddr 0)] [.ref 18, .int 0] _ _ _ _
  refine pm_e_call (T2 := pm_mm59) pm_a0_244 rfl rfl rfl rfl rfl rfl rfl rfl rfl ?_
  show pm_E _ _ _ 0 [(0, .ref 18)] [] _ _ _ _
  refine pm_e_sim pm_a59_0 rfl ?_
  show pm_E _ _ _ 1 [(0, .ref 18)] [.ref 18] _ _ _ _
  refine pm_e_rd pm_a59_1 rfl rfl rfl ?_
  show pm_E _ _ _ 4 [(0, .ref 18)] [.int 0] _ _ _ _
  refine pm_e_ret pm_a59_4 rfl rfl rfl rfl rfl rfl rfl rfl ?_
  show pm_E _ _ _ 247 [(3, .int 0), (2, .ref 18), (1, .ref 0), (0, .retAddr 0)] [.int 0, .int 0] _ _ _ _
  refine pm_e_ict pm_a0_247 rfl (by decide +kernel) ?_
  show pm_E _ _ _ 779 [(3, .int 0), (2, .ref 18), (1, .ref 0), (0, .retAddr 0)] [] _ _ _ _
  refine pm_e_inc (y := 6) pm_a0_779 rfl (by decide +kernel) (by decide +kernel) rfl ?_
  show pm_E _ _ _ 782 [(3, .int 6), (2, .ref 18), (1, .ref 0), (0, .retAddr 0)] [] _ _ _ _
  refine pm_e_goto pm_a0_782 rfl ?_
  show pm_E _ _ _ 18 [(3, .int 6), (2, .ref 18), (1, .ref 0), (0, .retAddr 0)] [] _ _ _ _
  refine pm_e_sim pm_a0_18 rfl ?_
  show pm_E _ _ _ 19 [(3, .int 6), (2, .ref 18), (1, .ref 0), (0, .retAddr 0)] [.int 6] _ _ _ _
  refine pm_e_sim pm_a0_19 rfl ?_
  show pm_E _ _ _ 20 [(3, .int 6), (2, .ref 18), (1, .ref 0), (0, .retAddr 0)] [.retAddr 0, .int 6] _ _ _ _
  refine pm_e_rd pm_a0_20 rfl rfl rfl ?_
  dsimp only
  refine pm_e_top (y := 6) (by decide +kernel) ?_
  show pm_E _ _ _ 21 [(3, .int 6), (2, .ref 18), (1, .ref 0), (0, .retAddr 0)] [.int 6, .int 6] _ _ _ _
  refine pm_e_sim pm_a0_21 rfl ?_
  refine pm_e_top (y := 6) (by decide +kernel) ?_
  show pm_E _ _ _ 23 [(3, .int 6), (2, .ref 18), (1, .ref 0), (0, .retAddr 0)] [.int 6, .int 6, .int 6] _ _ _ _
  refine pm_e_sim pm_a0_23 rfl ?_
  refine pm_e_top (y := 0) (by decide +kernel) ?_
  show pm_E _ _ _ 24 [(3, .int 6), (2, .ref 18), (1, .ref 0), (0, .retAddr 0)] [.int 0, .int 6] _ _ _ _
  refine pm_e_ict pm_a0_24 rfl (by decide +kernel) ?_
  show pm_E _ _ _ 785 [(3, .int 6), (2, .ref 18), (1, .ref 0), (0, .retAddr 0)] [] _ _ _ _
  refine pm_e_sim pm_a0_785 rfl ?_
  refine pm_e_top (y := 1) (by decide +kernel) ?_
  show pm_E _ _ _ 786 [(3, .int 6), (2, .ref 18), (1, .ref 0), (0, .retAddr 0)] [.int 1] _ _ _ _
  refine pm_e_ret pm_a0_786 rfl rfl rfl rfl rfl rfl rfl rfl ?_
  exact hQ _ _ _ (by decide +kernel) (by decide +kernel)
set_option maxHeartbeats 40000000 in
set_option maxRecDepth 200000 in
theorem pm_op4 (xs : Nat → Int32) {Q : Option Value → List va_E → Nat → Nat → Prop} (hQ : ∀ ph c n, c ≤ 600000 → n ≤ 7302250 → Q (some (.int 1)) ph c n) : pm_E (some (6, xs)) 11 pm_mm0 33 pm_L0 [.int (nI 4)] pm_H0 50 194358 Q := by
  refine pm_e_top (y := 4) (by decide +kernel) ?_
  rcases (show (xs 1).toInt < 0 ∨ (xs 1).toInt = 0 ∨ 0 < (xs 1).toInt by omega) with h1 | h1 | h1
  · refine pm_e_tsi (t := 252) pm_a0_33 rfl (by decide +kernel) ?_
    show pm_E _ _ _ 252 [(3, .int 0), (2, .ref 18), (1, .ref 0), (0, .retAddr 0)] [] _ _ _ _
    refine pm_e_sim pm_a0_252 rfl ?_
    show pm_E _ _ _ 253 [(3, .int 0), (2, .ref 18), (1, .ref 0), (0, .retAddr 0)] [.ref 0] _ _ _ _
    refine pm_e_sim pm_a0_253 rfl ?_
    show pm_E _ _ _ 254 [(3, .int 0), (2, .ref 18), (1, .ref 0), (0, .retAddr 0)] [.retAddr 0, .ref 0] _ _ _ _
    refine pm_e_sim pm_a0_254 rfl ?_
    show pm_E _ _ _ 255 [(3, .int 0), (2, .ref 18), (1, .ref 0), (0, .retAddr 0)] [.int 0, .retAddr 0, .ref 0] _ _ _ _
    refine pm_e_sim pm_a0_255 rfl ?_
    refine pm_e_top (y := 1) (by decide +kernel) ?_
    show pm_E _ _ _ 256 [(3, .int 0), (2, .ref 18), (1, .ref 0), (0, .retAddr 0)] [.int 1, .int 0, .retAddr 0, .ref 0] _ _ _ _
    refine pm_e_sim pm_a0_256 rfl ?_
    refine pm_e_top (y := 1) (by decide +kernel) ?_
    show pm_E _ _ _ 257 [(3, .int 0), (2, .ref 18), (1, .ref 0), (0, .retAddr 0)] [.int 1, .retAddr 0, .ref 0] _ _ _ _
    refine pm_e_sld (j := 1) pm_a0_257 (by decide +kernel) ?_
    show pm_E _ _ _ 258 [(3, .int 0), (2, .ref 18), (1, .ref 0), (0, .retAddr 0)] [.int _, .ref 0] _ _ _ _
    refine pm_e_call (T2 := pm_mm25) pm_a0_258 rfl rfl rfl rfl rfl rfl rfl rfl rfl ?_
    show pm_E _ _ _ 0 [(0, .ref 0), (1, .int _)] [] _ _ _ _
    refine pm_e_sim pm_a25_0 rfl ?_
    show pm_E _ _ _ 1 [(0, .ref 0), (1, .int _)] [.ref 0] _ _ _ _
    refine pm_e_sim pm_a25_1 rfl ?_
    show pm_E _ _ _ 2 [(0, .ref 0), (1, .int _)] [.int _, .ref 0] _ _ _ _
    refine pm_e_call (T2 := pm_mm26) pm_a25_2 rfl rfl rfl rfl rfl rfl rfl rfl rfl ?_
    show pm_E _ _ _ 0 [(0, .ref 0), (1, .int _)] [] _ _ _ _
    refine pm_e_sim pm_a26_0 rfl ?_
    show pm_E _ _ _ 1 [(0, .ref 0), (1, .int _)] [.int _] _ _ _ _
    refine pm_e_ift pm_a26_1 rfl (pm_z_lt_t 0 (by decide +kernel) (by omega)) ?_
    show pm_E _ _ _ 30 [(0, .ref 0), (1, .int _)] [] _ _ _ _
    refine pm_e_sim pm_a26_30 rfl ?_
    show pm_E _ _ _ 31 [(0, .ref 0), (1, .int _)] [.null] _ _ _ _
    refine pm_e_ret pm_a26_31 rfl rfl rfl rfl rfl rfl rfl rfl ?_
    show pm_E _ _ _ 5 [(0, .ref 0), (1, .int _)] [.null] _ _ _ _
    refine pm_e_sim pm_a25_5 rfl ?_
    show pm_E _ _ _ 6 [(2, .null), (0, .ref 0), (1, .int _)] [] _ _ _ _
    refine pm_e_sim pm_a25_6 rfl ?_
    show pm_E _ _ _ 7 [(2, .null), (0, .ref 0), (1, .int _)] [.null] _ _ _ _
    refine pm_e_jmp (pc2 := 10) pm_a25_7 rfl rfl ?_
    show pm_E _ _ _ 10 [(2, .null), (0, .ref 0), (1, .int _)] [] _ _ _ _
    refine pm_e_sim pm_a25_10 rfl ?_
    refine pm_e_top (y := (-1)) (by decide +kernel) ?_
    show pm_E _ _ _ 11 [(2, .null), (0, .ref 0), (1, .int _)] [.int (-1)] _ _ _ _
    refine pm_e_goto pm_a25_11 rfl ?_
    show pm_E _ _ _ 18 [(2, .null), (0, .ref 0), (1, .int _)] [.int (-1)] _ _ _ _
    refine pm_e_ret pm_a25_18 rfl rfl rfl rfl rfl rfl rfl rfl ?_
    show pm_E _ _ _ 261 [(3, .int 0), (2, .ref 18), (1, .ref 0), (0, .retAddr 0)] [.int (-1)] _ _ _ _
    refine pm_e_sim pm_a0_261 rfl ?_
    show pm_E _ _ _ 262 [(3, .int 0), (2, .ref 18), (1, .ref 0), (0, .retAddr 0)] [.ref 18, .int (-1)] _ _ _ _
    refine pm_e_sim pm_a0_262 rfl ?_
    show pm_E _ _ _ 263 [(3, .int 0), (2, .ref 18), (1, .ref 0), (0, .retAddr 0)] [.retAddr 0, .ref 18, .int (-1)] _ _ _ _
    refine pm_e_sim pm_a0_263 rfl ?_
    show pm_E _ _ _ 264 [(3, .int 0), (2, .ref 18), (1, .ref 0), (0, .retAddr 0)] [.int 0, .retAddr 0, .ref 18, .int (-1)] _ _ _ _
    refine pm_e_sim pm_a0_264 rfl ?_
    refine pm_e_top (y := 1) (by decide +kernel) ?_
    show pm_E _ _ _ 265 [(3, .int 0), (2, .ref 18), (1, .ref 0), (0, .retAddr 0)] [.int 1, .int 0, .retAddr 0, .ref 18, .int (-1)] _ _ _ _
    refine pm_e_sim pm_a0_265 rfl ?_
    refine pm_e_top (y := 1) (by decide +kernel) ?_
    show pm_E _ _ _ 266 [(3, .int 0), (2, .ref 18), (1, .ref 0), (0, .retAddr 0)] [.int 1, .retAddr 0, .ref 18, .int (-1)] _ _ _ _
    refine pm_e_sld (j := 1) pm_a0_266 (by decide +kernel) ?_
    show pm_E _ _ _ 267 [(3, .int 0), (2, .ref 18), (1, .ref 0), (0, .retAddr 0)] [.int _, .ref 18, .int (-1)] _ _ _ _
    refine pm_e_call (T2 := pm_mm60) pm_a0_267 rfl rfl rfl rfl rfl rfl rfl rfl rfl ?_
    show pm_E _ _ _ 0 [(0, .ref 18), (1, .int _)] [] _ _ _ _
    refine pm_e_sim pm_a60_0 rfl ?_
    show pm_E _ _ _ 1 [(0, .ref 18), (1, .int _)] [.ref 18] _ _ _ _
    refine pm_e_sim pm_a60_1 rfl ?_
    show pm_E _ _ _ 2 [(0, .ref 18), (1, .int _)] [.int _, .ref 18] _ _ _ _
    refine pm_e_call (T2 := pm_mm61) pm_a60_2 rfl rfl rfl rfl rfl rfl rfl rfl rfl ?_
    show pm_E _ _ _ 0 [(0, .ref 18), (1, .int _)] [] _ _ _ _
    refine pm_e_sim pm_a61_0 rfl ?_
    show pm_E _ _ _ 1 [(0, .ref 18), (1, .int _)] [.int _] _ _ _ _
    refine pm_e_sim pm_a61_1 rfl ?_
    show pm_E _ _ _ 2 [(0, .ref 18), (1, .int _)] [.long _] _ _ _ _
    refine pm_e_sim pm_a61_2 rfl ?_
    show pm_E _ _ _ 3 [(0, .ref 18), (1, .int _)] [.long _, .long _] _ _ _ _
    refine pm_e_sim pm_a61_3 rfl ?_
    show pm_E _ _ _ 4 [(0, .ref 18), (1, .int _)] [.ref 18, .long _, .long _] _ _ _ _
    refine pm_e_rd pm_a61_4 rfl rfl rfl ?_
    show pm_E _ _ _ 7 [(0, .ref 18), (1, .int _)] [.int 0, .long _, .long _] _ _ _ _
    refine pm_e_sim pm_a61_7 rfl ?_
    refine pm_e_top (y := 1) (by decide +kernel) ?_
    show pm_E _ _ _ 8 [(0, .ref 18), (1, .int _)] [.int 1, .int 0, .long _, .long _] _ _ _ _
    refine pm_e_sim pm_a61_8 rfl ?_
    refine pm_e_top (y := (-1)) (by decide +kernel) ?_
    show pm_E _ _ _ 9 [(0, .ref 18), (1, .int _)] [.int (-1), .long _, .long _] _ _ _ _
    refine pm_e_sim pm_a61_9 rfl ?_
    show pm_E _ _ _ 10 [(0, .ref 18), (1, .int _)] [.long _, .long _, .long _] _ _ _ _
    refine pm_e_call (T2 := pm_mm50) pm_a61_10 rfl rfl rfl rfl rfl rfl rfl rfl rfl ?_
    show pm_E _ _ _ 0 [(0, .long _), (2, .long _), (4, .long _)] [] _ _ _ _
    refine pm_e_sim pm_a50_0 rfl ?_
    show pm_E _ _ _ 1 [(0, .long _), (2, .long _), (4, .long _)] [.long _] _ _ _ _
    refine pm_e_sim pm_a50_1 rfl ?_
    show pm_E _ _ _ 2 [(0, .long _), (2, .long _), (4, .long _)] [.long _, .long _] _ _ _ _
    refine pm_e_sim pm_a50_2 rfl ?_
    show pm_E _ _ _ 3 [(0, .long _), (2, .long _), (4, .long _)] [.int _] _ _ _ _
    refine pm_e_ift pm_a50_3 rfl (pm_zl_lt 0 (by decide +kernel) (by omega) (by decide +kernel)) ?_
    show pm_E _ _ _ 17 [(0, .long _), (2, .long _), (4, .long _)] [] _ _ _ _
    refine pm_e_sim pm_a50_17 rfl ?_
    refine pm_e_top (y := 0) (by decide +kernel) ?_
    show pm_E _ _ _ 18 [(0, .long _), (2, .long _), (4, .long _)] [.int 0] _ _ _ _
    refine pm_e_ret pm_a50_18 rfl rfl rfl rfl rfl rfl rfl rfl ?_
    show pm_E _ _ _ 13 [(0, .ref 18), (1, .int _)] [.int 0] _ _ _ _
    refine pm_e_ret pm_a61_13 rfl rfl rfl rfl rfl rfl rfl rfl ?_
    show pm_E _ _ _ 5 [(0, .ref 18), (1, .int _)] [.int 0] _ _ _ _
    refine pm_e_ift pm_a60_5 rfl (by decide +kernel) ?_
    show pm_E _ _ _ 17 [(0, .ref 18), (1, .int _)] [] _ _ _ _
    refine pm_e_sim pm_a60_17 rfl ?_
    refine pm_e_top (y := (-1)) (by decide +kernel) ?_
    show pm_E _ _ _ 18 [(0, .ref 18), (1, .int _)] [.int (-1)] _ _ _ _
    refine pm_e_ret pm_a60_18 rfl rfl rfl rfl rfl rfl rfl rfl ?_
    show pm_E _ _ _ 270 [(3, .int 0), (2, .ref 18), (1, .ref 0), (0, .retAddr 0)] [.int (-1), .int (-1)] _ _ _ _
    refine pm_e_ict pm_a0_270 rfl (by decide +kernel) ?_
    show pm_E _ _ _ 779 [(3, .int 0), (2, .ref 18), (1, .ref 0), (0, .retAddr 0)] [] _ _ _ _
    refine pm_e_inc (y := 6) pm_a0_779 rfl (by decide +kernel) (by decide +kernel) rfl ?_
    show pm_E _ _ _ 782 [(3, .int 6), (2, .ref 18), (1, .ref 0), (0, .retAddr 0)] [] _ _ _ _
    refine pm_e_goto pm_a0_782 rfl ?_
    show pm_E _ _ _ 18 [(3, .int 6), (2, .ref 18), (1, .ref 0), (0, .retAddr 0)] [] _ _ _ _
    refine pm_e_sim pm_a0_18 rfl ?_
    show pm_E _ _ _ 19 [(3, .int 6), (2, .ref 18), (1, .ref 0), (0, .retAddr 0)] [.int 6] _ _ _ _
    refine pm_e_sim pm_a0_19 rfl ?_
    show pm_E _ _ _ 20 [(3, .int 6), (2, .ref 18), (1, .ref 0), (0, .retAddr 0)] [.retAddr 0, .int 6] _ _ _ _
    refine pm_e_rd pm_a0_20 rfl rfl rfl ?_
    dsimp only
    refine pm_e_top (y := 6) (by decide +kernel) ?_
    show pm_E _ _ _ 21 [(3, .int 6), (2, .ref 18), (1, .ref 0), (0, .retAddr 0)] [.int 6, .int 6] _ _ _ _
    refine pm_e_sim pm_a0_21 rfl ?_
    refine pm_e_top (y := 6) (by decide +kernel) ?_
    show pm_E _ _ _ 23 [(3, .int 6), (2, .ref 18), (1, .ref 0), (0, .retAddr 0)] [.int 6, .int 6, .int 6] _ _ _ _
    refine pm_e_sim pm_a0_23 rfl ?_
    refine pm_e_top (y := 0) (by decide +kernel) ?_
    show pm_E _ _ _ 24 [(3, .int 6), (2, .ref 18), (1, .ref 0), (0, .retAddr 0)] [.int 0, .int 6] _ _ _ _
    refine pm_e_ict pm_a0_24 rfl (by decide +kernel) ?_
    show pm_E _ _ _ 785 [(3, .int 6), (2, .ref 18), (1, .ref 0), (0, .retAddr 0)] [] _ _ _ _
    refine pm_e_sim pm_a0_785 rfl ?_
    refine pm_e_top (y := 1) (by decide +kernel) ?_
    show pm_E _ _ _ 786 [(3, .int 6), (2, .ref 18), (1, .ref 0), (0, .retAddr 0)] [.int 1] _ _ _ _
    refine pm_e_ret pm_a0_786 rfl rfl rfl rfl rfl rfl rfl rfl ?_
    exact hQ _ _ _ (by decide +kernel) (by decide +kernel)
  · refine pm_e_tsi (t := 252) pm_a0_33 rfl (by decide +kernel) ?_
    show pm_E _ _ _ 252 [(3, .int 0), (2, .ref 18), (1, .ref 0), (0, .retAddr 0)] [] _ _ _ _
    refine pm_e_sim pm_a0_252 rfl ?_
    show pm_E _ _ _ 253 [(3, .int 0), (2, .ref 18), (1, .ref 0), (0, .retAddr 0)] [.ref 0] _ _ _ _
    refine pm_e_sim pm_a0_253 rfl ?_
    show pm_E _ _ _ 254 [(3, .int 0), (2, .ref 18), (1, .ref 0), (0, .retAddr 0)] [.retAddr 0, .ref 0] _ _ _ _
    refine pm_e_sim pm_a0_254 rfl ?_
    show pm_E _ _ _ 255 [(3, .int 0), (2, .ref 18), (1, .ref 0), (0, .retAddr 0)] [.int 0, .retAddr 0, .ref 0] _ _ _ _
    refine pm_e_sim pm_a0_255 rfl ?_
    refine pm_e_top (y := 1) (by decide +kernel) ?_
    show pm_E _ _ _ 256 [(3, .int 0), (2, .ref 18), (1, .ref 0), (0, .retAddr 0)] [.int 1, .int 0, .retAddr 0, .ref 0] _ _ _ _
    refine pm_e_sim pm_a0_256 rfl ?_
    refine pm_e_top (y := 1) (by decide +kernel) ?_
    show pm_E _ _ _ 257 [(3, .int 0), (2, .ref 18), (1, .ref 0), (0, .retAddr 0)] [.int 1, .retAddr 0, .ref 0] _ _ _ _
    refine pm_e_sld (j := 1) pm_a0_257 (by decide +kernel) ?_
    show pm_E _ _ _ 258 [(3, .int 0), (2, .ref 18), (1, .ref 0), (0, .retAddr 0)] [.int _, .ref 0] _ _ _ _
    refine pm_e_call (T2 := pm_mm25) pm_a0_258 rfl rfl rfl rfl rfl rfl rfl rfl rfl ?_
    show pm_E _ _ _ 0 [(0, .ref 0), (1, .int _)] [] _ _ _ _
    refine pm_e_sim pm_a25_0 rfl ?_
    show pm_E _ _ _ 1 [(0, .ref 0), (1, .int _)] [.ref 0] _ _ _ _
    refine pm_e_sim pm_a25_1 rfl ?_
    show pm_E _ _ _ 2 [(0, .ref 0), (1, .int _)] [.int _, .ref 0] _ _ _ _
    refine pm_e_call (T2 := pm_mm26) pm_a25_2 rfl rfl rfl rfl rfl rfl rfl rfl rfl ?_
    show pm_E _ _ _ 0 [(0, .ref 0), (1, .int _)] [] _ _ _ _
    refine pm_e_sim pm_a26_0 rfl ?_
    show pm_E _ _ _ 1 [(0, .ref 0), (1, .int _)] [.int _] _ _ _ _
    refine pm_e_iff pm_a26_1 rfl (pm_z_lt_f 0 (by decide +kernel) (by omega)) ?_
    show pm_E _ _ _ 4 [(0, .ref 0), (1, .int _)] [] _ _ _ _
    refine pm_e_sim pm_a26_4 rfl ?_
    show pm_E _ _ _ 5 [(0, .ref 0), (1, .int _)] [.int _] _ _ _ _
    refine pm_e_sim pm_a26_5 rfl ?_
    show pm_E _ _ _ 6 [(0, .ref 0), (1, .int _)] [.ref 0, .int _] _ _ _ _
    refine pm_e_rd pm_a26_6 rfl rfl rfl ?_
    show pm_E _ _ _ 9 [(0, .ref 0), (1, .int _)] [.int 0, .int _] _ _ _ _
    refine pm_e_ict pm_a26_9 rfl (pm_z_ge_t 0 (by decide +kernel) (by omega)) ?_
    show pm_E _ _ _ 30 [(0, .ref 0), (1, .int _)] [] _ _ _ _
    refine pm_e_sim pm_a26_30 rfl ?_
    show pm_E _ _ _ 31 [(0, .ref 0), (1, .int _)] [.null] _ _ _ _
    refine pm_e_ret pm_a26_31 rfl rfl rfl rfl rfl rfl rfl rfl ?_
    show pm_E _ _ _ 5 [(0, .ref 0), (1, .int _)] [.null] _ _ _ _
    refine pm_e_sim pm_a25_5 rfl ?_
    show pm_E _ _ _ 6 [(2, .null), (0, .ref 0), (1, .int _)] [] _ _ _ _
    refine pm_e_sim pm_a25_6 rfl ?_
    show pm_E _ _ _ 7 [(2, .null), (0, .ref 0), (1, .int _)] [.null] _ _ _ _
    refine pm_e_jmp (pc2 := 10) pm_a25_7 rfl rfl ?_
    show pm_E _ _ _ 10 [(2, .null), (0, .ref 0), (1, .int _)] [] _ _ _ _
    refine pm_e_sim pm_a25_10 rfl ?_
    refine pm_e_top (y := (-1)) (by decide +kernel) ?_
    show pm_E _ _ _ 11 [(2, .null), (0, .ref 0), (1, .int _)] [.int (-1)] _ _ _ _
    refine pm_e_goto pm_a25_11 rfl ?_
    show pm_E _ _ _ 18 [(2, .null), (0, .ref 0), (1, .int _)] [.int (-1)] _ _ _ _
    refine pm_e_ret pm_a25_18 rfl rfl rfl rfl rfl rfl rfl rfl ?_
    show pm_E _ _ _ 261 [(3, .int 0), (2, .ref 18), (1, .ref 0), (0, .retAddr 0)] [.int (-1)] _ _ _ _
    refine pm_e_sim pm_a0_261 rfl ?_
    show pm_E _ _ _ 262 [(3, .int 0), (2, .ref 18), (1, .ref 0), (0, .retAddr 0)] [.ref 18, .int (-1)] _ _ _ _
    refine pm_e_sim pm_a0_262 rfl ?_
    show pm_E _ _ _ 263 [(3, .int 0), (2, .ref 18), (1, .ref 0), (0, .retAddr 0)] [.retAddr 0, .ref 18, .int (-1)] _ _ _ _
    refine pm_e_sim pm_a0_263 rfl ?_
    show pm_E _ _ _ 264 [(3, .int 0), (2, .ref 18), (1, .ref 0), (0, .retAddr 0)] [.int 0, .retAddr 0, .ref 18, .int (-1)] _ _ _ _
    refine pm_e_sim pm_a0_264 rfl ?_
    refine pm_e_top (y := 1) (by decide +kernel) ?_
    show pm_E _ _ _ 265 [(3, .int 0), (2, .ref 18), (1, .ref 0), (0, .retAddr 0)] [.int 1, .int 0, .retAddr 0, .ref 18, .int (-1)] _ _ _ _
    refine pm_e_sim pm_a0_265 rfl ?_
    refine pm_e_top (y := 1) (by decide +kernel) ?_
    show pm_E _ _ _ 266 [(3, .int 0), (2, .ref 18), (1, .ref 0), (0, .retAddr 0)] [.int 1, .retAddr 0, .ref 18, .int (-1)] _ _ _ _
    refine pm_e_sld (j := 1) pm_a0_266 (by decide +kernel) ?_
    show pm_E _ _ _ 267 [(3, .int 0), (2, .ref 18), (1, .ref 0), (0, .retAddr 0)] [.int _, .ref 18, .int (-1)] _ _ _ _
    refine pm_e_call (T2 := pm_mm60) pm_a0_267 rfl rfl rfl rfl rfl rfl rfl rfl rfl ?_
    show pm_E _ _ _ 0 [(0, .ref 18), (1, .int _)] [] _ _ _ _
    refine pm_e_sim pm_a60_0 rfl ?_
    show pm_E _ _ _ 1 [(0, .ref 18), (1, .int _)] [.ref 18] _ _ _ _
    refine pm_e_sim pm_a60_1 rfl ?_
    show pm_E _ _ _ 2 [(0, .ref 18), (1, .int _)] [.int _, .ref 18] _ _ _ _
    refine pm_e_call (T2 := pm_mm61) pm_a60_2 rfl rfl rfl rfl rfl rfl rfl rfl rfl ?_
    show pm_E _ _ _ 0 [(0, .ref 18), (1, .int _)] [] _ _ _ _
    refine pm_e_sim pm_a61_0 rfl ?_
    show pm_E _ _ _ 1 [(0, .ref 18), (1, .int _)] [.int _] _ _ _ _
    refine pm_e_sim pm_a61_1 rfl ?_
    show pm_E _ _ _ 2 [(0, .ref 18), (1, .int _)] [.long _] _ _ _ _
    refine pm_e_sim pm_a61_2 rfl ?_
    show pm_E _ _ _ 3 [(0, .ref 18), (1, .int _)] [.long _, .long _] _ _ _ _
    refine pm_e_sim pm_a61_3 rfl ?_
    show pm_E _ _ _ 4 [(0, .ref 18), (1, .int _)] [.ref 18, .long _, .long _] _ _ _ _
    refine pm_e_rd pm_a61_4 rfl rfl rfl ?_
    show pm_E _ _ _ 7 [(0, .ref 18), (1, .int _)] [.int 0, .long _, .long _] _ _ _ _
    refine pm_e_sim pm_a61_7 rfl ?_
    refine pm_e_top (y := 1) (by decide +kernel) ?_
    show pm_E _ _ _ 8 [(0, .ref 18), (1, .int _)] [.int 1, .int 0, .long _, .long _] _ _ _ _
    refine pm_e_sim pm_a61_8 rfl ?_
    refine pm_e_top (y := (-1)) (by decide +kernel) ?_
    show pm_E _ _ _ 9 [(0, .ref 18), (1, .int _)] [.int (-1), .long _, .long _] _ _ _ _
    refine pm_e_sim pm_a61_9 rfl ?_
    show pm_E _ _ _ 10 [(0, .ref 18), (1, .int _)] [.long _, .long _, .long _] _ _ _ _
    refine pm_e_call (T2 := pm_mm50) pm_a61_10 rfl rfl rfl rfl rfl rfl rfl rfl rfl ?_
    show pm_E _ _ _ 0 [(0, .long _), (2, .long _), (4, .long _)] [] _ _ _ _
    refine pm_e_sim pm_a50_0 rfl ?_
    show pm_E _ _ _ 1 [(0, .long _), (2, .long _), (4, .long _)] [.long _] _ _ _ _
    refine pm_e_sim pm_a50_1 rfl ?_
    show pm_E _ _ _ 2 [(0, .long _), (2, .long _), (4, .long _)] [.long _, .long _] _ _ _ _
    refine pm_e_sim pm_a50_2 rfl ?_
    show pm_E _ _ _ 3 [(0, .long _), (2, .long _), (4, .long _)] [.int _] _ _ _ _
    refine pm_e_iff pm_a50_3 rfl (pm_zl_eq 0 (by decide +kernel) (by omega) (by decide +kernel)) ?_
    show pm_E _ _ _ 6 [(0, .long _), (2, .long _), (4, .long _)] [] _ _ _ _
    refine pm_e_sim pm_a50_6 rfl ?_
    show pm_E _ _ _ 7 [(0, .long _), (2, .long _), (4, .long _)] [.long _] _ _ _ _
    refine pm_e_sim pm_a50_7 rfl ?_
    show pm_E _ _ _ 9 [(0, .long _), (2, .long _), (4, .long _)] [.long _, .long _] _ _ _ _
    refine pm_e_sim pm_a50_9 rfl ?_
    show pm_E _ _ _ 10 [(0, .long _), (2, .long _), (4, .long _)] [.int _] _ _ _ _
    refine pm_e_ift pm_a50_10 rfl (pm_zl_gt (-1) (by decide +kernel) (by omega) (by decide +kernel)) ?_
    show pm_E _ _ _ 17 [(0, .long _), (2, .long _), (4, .long _)] [] _ _ _ _
    refine pm_e_sim pm_a50_17 rfl ?_
    refine pm_e_top (y := 0) (by decide +kernel) ?_
    show pm_E _ _ _ 18 [(0, .long _), (2, .long _), (4, .long _)] [.int 0] _ _ _ _
    refine pm_e_ret pm_a50_18 rfl rfl rfl rfl rfl rfl rfl rfl ?_
    show pm_E _ _ _ 13 [(0, .ref 18), (1, .int _)] [.int 0] _ _ _ _
    refine pm_e_ret pm_a61_13 rfl rfl rfl rfl rfl rfl rfl rfl ?_
    show pm_E _ _ _ 5 [(0, .ref 18), (1, .int _)] [.int 0] _ _ _ _
    refine pm_e_ift pm_a60_5 rfl (by decide +kernel) ?_
    show pm_E _ _ _ 17 [(0, .ref 18), (1, .int _)] [] _ _ _ _
    refine pm_e_sim pm_a60_17 rfl ?_
    refine pm_e_top (y := (-1)) (by decide +kernel) ?_
    show pm_E _ _ _ 18 [(0, .ref 18), (1, .int _)] [.int (-1)] _ _ _ _
    refine pm_e_ret pm_a60_18 rfl rfl rfl rfl rfl rfl rfl rfl ?_
    show pm_E _ _ _ 270 [(3, .int 0), (2, .ref 18), (1, .ref 0), (0, .retAddr 0)] [.int (-1), .int (-1)] _ _ _ _
    refine pm_e_ict pm_a0_270 rfl (by decide +kernel) ?_
    show pm_E _ _ _ 779 [(3, .int 0), (2, .ref 18), (1, .ref 0), (0, .retAddr 0)] [] _ _ _ _
    refine pm_e_inc (y := 6) pm_a0_779 rfl (by decide +kernel) (by decide +kernel) rfl ?_
    show pm_E _ _ _ 782 [(3, .int 6), (2, .ref 18), (1, .ref 0), (0, .retAddr 0)] [] _ _ _ _
    refine pm_e_goto pm_a0_782 rfl ?_
    show pm_E _ _ _ 18 [(3, .int 6), (2, .ref 18), (1, .ref 0), (0, .retAddr 0)] [] _ _ _ _
    refine pm_e_sim pm_a0_18 rfl ?_
    show pm_E _ _ _ 19 [(3, .int 6), (2, .ref 18), (1, .ref 0), (0, .retAddr 0)] [.int 6] _ _ _ _
    refine pm_e_sim pm_a0_19 rfl ?_
    show pm_E _ _ _ 20 [(3, .int 6), (2, .ref 18), (1, .ref 0), (0, .retAddr 0)] [.retAddr 0, .int 6] _ _ _ _
    refine pm_e_rd pm_a0_20 rfl rfl rfl ?_
    dsimp only
    refine pm_e_top (y := 6) (by decide +kernel) ?_
    show pm_E _ _ _ 21 [(3, .int 6), (2, .ref 18), (1, .ref 0), (0, .retAddr 0)] [.int 6, .int 6] _ _ _ _
    refine pm_e_sim pm_a0_21 rfl ?_
    refine pm_e_top (y := 6) (by decide +kernel) ?_
    show pm_E _ _ _ 23 [(3, .int 6), (2, .ref 18), (1, .ref 0), (0, .retAddr 0)] [.int 6, .int 6, .int 6] _ _ _ _
    refine pm_e_sim pm_a0_23 rfl ?_
    refine pm_e_top (y := 0) (by decide +kernel) ?_
    show pm_E _ _ _ 24 [(3, .int 6), (2, .ref 18), (1, .ref 0), (0, .retAddr 0)] [.int 0, .int 6] _ _ _ _
    refine pm_e_ict pm_a0_24 rfl (by decide +kernel) ?_
    show pm_E _ _ _ 785 [(3, .int 6), (2, .ref 18), (1, .ref 0), (0, .retAddr 0)] [] _ _ _ _
    refine pm_e_sim pm_a0_785 rfl ?_
    refine pm_e_top (y := 1) (by decide +kernel) ?_
    show pm_E _ _ _ 786 [(3, .int 6), (2, .ref 18), (1, .ref 0), (0, .retAddr 0)] [.int 1] _ _ _ _
    refine pm_e_ret pm_a0_786 rfl rfl rfl rfl rfl rfl rfl rfl ?_
    exact hQ _ _ _ (by decide +kernel) (by decide +kernel)
  · refine pm_e_tsi (t := 252) pm_a0_33 rfl (by decide +kernel) ?_
    show pm_E _ _ _ 252 [(3, .int 0), (2, .ref 18), (1, .ref 0), (0, .retAddr 0)] [] _ _ _ _
    refine pm_e_sim pm_a0_252 rfl ?_
    show pm_E _ _ _ 253 [(3, .int 0), (2, .ref 18), (1, .ref 0), (0, .retAddr 0)] [.ref 0] _ _ _ _
    refine pm_e_sim pm_a0_253 rfl ?_
    show pm_E _ _ _ 254 [(3, .int 0), (2, .ref 18), (1, .ref 0), (0, .retAddr 0)] [.retAddr 0, .ref 0] _ _ _ _
    refine pm_e_sim pm_a0_254 rfl ?_
    show pm_E _ _ _ 255 [(3, .int 0), (2, .ref 18), (1, .ref 0), (0, .retAddr 0)] [.int 0, .retAddr 0, .ref 0] _ _ _ _
    refine pm_e_sim pm_a0_255 rfl ?_
    refine pm_e_top (y := 1) (by decide +kernel) ?_
    show pm_E _ _ _ 256 [(3, .int 0), (2, .ref 18), (1, .ref 0), (0, .retAddr 0)] [.int 1, .int 0, .retAddr 0, .ref 0] _ _ _ _
    refine pm_e_sim pm_a0_256 rfl ?_
    refine pm_e_top (y := 1) (by decide +kernel) ?_
    show pm_E _ _ _ 257 [(3, .int 0), (2, .ref 18), (1, .ref 0), (0, .retAddr 0)] [.int 1, .retAddr 0, .ref 0] _ _ _ _
    refine pm_e_sld (j := 1) pm_a0_257 (by decide +kernel) ?_
    show pm_E _ _ _ 258 [(3, .int 0), (2, .ref 18), (1, .ref 0), (0, .retAddr 0)] [.int _, .ref 0] _ _ _ _
    refine pm_e_call (T2 := pm_mm25) pm_a0_258 rfl rfl rfl rfl rfl rfl rfl rfl rfl ?_
    show pm_E _ _ _ 0 [(0, .ref 0), (1, .int _)] [] _ _ _ _
    refine pm_e_sim pm_a25_0 rfl ?_
    show pm_E _ _ _ 1 [(0, .ref 0), (1, .int _)] [.ref 0] _ _ _ _
    refine pm_e_sim pm_a25_1 rfl ?_
    show pm_E _ _ _ 2 [(0, .ref 0), (1, .int _)] [.int _, .ref 0] _ _ _ _
    refine pm_e_call (T2 := pm_mm26) pm_a25_2 rfl rfl rfl rfl rfl rfl rfl rfl rfl ?_
    show pm_E _ _ _ 0 [(0, .ref 0), (1, .int _)] [] _ _ _ _
    refine pm_e_sim pm_a26_0 rfl ?_
    show pm_E _ _ _ 1 [(0, .ref 0), (1, .int _)] [.int _] _ _ _ _
    refine pm_e_iff pm_a26_1 rfl (pm_z_lt_f 0 (by decide +kernel) (by omega)) ?_
    show pm_E _ _ _ 4 [(0, .ref 0), (1, .int _)] [] _ _ _ _
    refine pm_e_sim pm_a26_4 rfl ?_
    show pm_E _ _ _ 5 [(0, .ref 0), (1, .int _)] [.int _] _ _ _ _
    refine pm_e_sim pm_a26_5 rfl ?_
    show pm_E _ _ _ 6 [(0, .ref 0), (1, .int _)] [.ref 0, .int _] _ _ _ _
    refine pm_e_rd pm_a26_6 rfl rfl rfl ?_
    show pm_E _ _ _ 9 [(0, .ref 0), (1, .int _)] [.int 0, .int _] _ _ _ _
    refine pm_e_ict pm_a26_9 rfl (pm_z_ge_t 0 (by decide +kernel) (by omega)) ?_
    show pm_E _ _ _ 30 [(0, .ref 0), (1, .int _)] [] _ _ _ _
    refine pm_e_sim pm_a26_30 rfl ?_
    show pm_E _ _ _ 31 [(0, .ref 0), (1, .int _)] [.null] _ _ _ _
    refine pm_e_ret pm_a26_31 rfl rfl rfl rfl rfl rfl rfl rfl ?_
    show pm_E _ _ _ 5 [(0, .ref 0), (1, .int _)] [.null] _ _ _ _
    refine pm_e_sim pm_a25_5 rfl ?_
    show pm_E _ _ _ 6 [(2, .null), (0, .ref 0), (1, .int _)] [] _ _ _ _
    refine pm_e_sim pm_a25_6 rfl ?_
    show pm_E _ _ _ 7 [(2, .null), (0, .ref 0), (1, .int _)] [.null] _ _ _ _
    refine pm_e_jmp (pc2 := 10) pm_a25_7 rfl rfl ?_
    show pm_E _ _ _ 10 [(2, .null), (0, .ref 0), (1, .int _)] [] _ _ _ _
    refine pm_e_sim pm_a25_10 rfl ?_
    refine pm_e_top (y := (-1)) (by decide +kernel) ?_
    show pm_E _ _ _ 11 [(2, .null), (0, .ref 0), (1, .int _)] [.int (-1)] _ _ _ _
    refine pm_e_goto pm_a25_11 rfl ?_
    show pm_E _ _ _ 18 [(2, .null), (0, .ref 0), (1, .int _)] [.int (-1)] _ _ _ _
    refine pm_e_ret pm_a25_18 rfl rfl rfl rfl rfl rfl rfl rfl ?_
    show pm_E _ _ _ 261 [(3, .int 0), (2, .ref 18), (1, .ref 0), (0, .retAddr 0)] [.int (-1)] _ _ _ _
    refine pm_e_sim pm_a0_261 rfl ?_
    show pm_E _ _ _ 262 [(3, .int 0), (2, .ref 18), (1, .ref 0), (0, .retAddr 0)] [.ref 18, .int (-1)] _ _ _ _
    refine pm_e_sim pm_a0_262 rfl ?_
    show pm_E _ _ _ 263 [(3, .int 0), (2, .ref 18), (1, .ref 0), (0, .retAddr 0)] [.retAddr 0, .ref 18, .int (-1)] _ _ _ _
    refine pm_e_sim pm_a0_263 rfl ?_
    show pm_E _ _ _ 264 [(3, .int 0), (2, .ref 18), (1, .ref 0), (0, .retAddr 0)] [.int 0, .retAddr 0, .ref 18, .int (-1)] _ _ _ _
    refine pm_e_sim pm_a0_264 rfl ?_
    refine pm_e_top (y := 1) (by decide +kernel) ?_
    show pm_E _ _ _ 265 [(3, .int 0), (2, .ref 18), (1, .ref 0), (0, .retAddr 0)] [.int 1, .int 0, .retAddr 0, .ref 18, .int (-1)] _ _ _ _
    refine pm_e_sim pm_a0_265 rfl ?_
    refine pm_e_top (y := 1) (by decide +kernel) ?_
    show pm_E _ _ _ 266 [(3, .int 0), (2, .ref 18), (1, .ref 0), (0, .retAddr 0)] [.int 1, .retAddr 0, .ref 18, .int (-1)] _ _ _ _
    refine pm_e_sld (j := 1) pm_a0_266 (by decide +kernel) ?_
    show pm_E _ _ _ 267 [(3, .int 0), (2, .ref 18), (1, .ref 0), (0, .retAddr 0)] [.int _, .ref 18, .int (-1)] _ _ _ _
    refine pm_e_call (T2 := pm_mm60) pm_a0_267 rfl rfl rfl rfl rfl rfl rfl rfl rfl ?_
    show pm_E _ _ _ 0 [(0, .ref 18), (1, .int _)] [] _ _ _ _
    refine pm_e_sim pm_a60_0 rfl ?_
    show pm_E _ _ _ 1 [(0, .ref 18), (1, .int _)] [.ref 18] _ _ _ _
    refine pm_e_sim pm_a60_1 rfl ?_
    show pm_E _ _ _ 2 [(0, .ref 18), (1, .int _)] [.int _, .ref 18] _ _ _ _
    refine pm_e_call (T2 := pm_mm61) pm_a60_2 rfl rfl rfl rfl rfl rfl rfl rfl rfl ?_
    show pm_E _ _ _ 0 [(0, .ref 18), (1, .int _)] [] _ _ _ _
    refine pm_e_sim pm_a61_0 rfl ?_
    show pm_E _ _ _ 1 [(0, .ref 18), (1, .int _)] [.int _] _ _ _ _
    refine pm_e_sim pm_a61_1 rfl ?_
    show pm_E _ _ _ 2 [(0, .ref 18), (1, .int _)] [.long _] _ _ _ _
    refine pm_e_sim pm_a61_2 rfl ?_
    show pm_E _ _ _ 3 [(0, .ref 18), (1, .int _)] [.long _, .long _] _ _ _ _
    refine pm_e_sim pm_a61_3 rfl ?_
    show pm_E _ _ _ 4 [(0, .ref 18), (1, .int _)] [.ref 18, .long _, .long _] _ _ _ _
    refine pm_e_rd pm_a61_4 rfl rfl rfl ?_
    show pm_E _ _ _ 7 [(0, .ref 18), (1, .int _)] [.int 0, .long _, .long _] _ _ _ _
    refine pm_e_sim pm_a61_7 rfl ?_
    refine pm_e_top (y := 1) (by decide +kernel) ?_
    show pm_E _ _ _ 8 [(0, .ref 18), (1, .int _)] [.int 1, .int 0, .long _, .long _] _ _ _ _
    refine pm_e_sim pm_a61_8 rfl ?_
    refine pm_e_top (y := (-1)) (by decide +kernel) ?_
    show pm_E _ _ _ 9 [(0, .ref 18), (1, .int _)] [.int (-1), .long _, .long _] _ _ _ _
    refine pm_e_sim pm_a61_9 rfl ?_
    show pm_E _ _ _ 10 [(0, .ref 18), (1, .int _)] [.long _, .long _, .long _] _ _ _ _
    refine pm_e_call (T2 := pm_mm50) pm_a61_10 rfl rfl rfl rfl rfl rfl rfl rfl rfl ?_
    show pm_E _ _ _ 0 [(0, .long _), (2, .long _), (4, .long _)] [] _ _ _ _
    refine pm_e_sim pm_a50_0 rfl ?_
    show pm_E _ _ _ 1 [(0, .long _), (2, .long _), (4, .long _)] [.long _] _ _ _ _
    refine pm_e_sim pm_a50_1 rfl ?_
    show pm_E _ _ _ 2 [(0, .long _), (2, .long _), (4, .long _)] [.long _, .long _] _ _ _ _
    refine pm_e_sim pm_a50_2 rfl ?_
    show pm_E _ _ _ 3 [(0, .long _), (2, .long _), (4, .long _)] [.int _] _ _ _ _
    refine pm_e_iff pm_a50_3 rfl (pm_zl_gt 0 (by decide +kernel) (by omega) (by decide +kernel)) ?_
    show pm_E _ _ _ 6 [(0, .long _), (2, .long _), (4, .long _)] [] _ _ _ _
    refine pm_e_sim pm_a50_6 rfl ?_
    show pm_E _ _ _ 7 [(0, .long _), (2, .long _), (4, .long _)] [.long _] _ _ _ _
    refine pm_e_sim pm_a50_7 rfl ?_
    show pm_E _ _ _ 9 [(0, .long _), (2, .long _), (4, .long _)] [.long _, .long _] _ _ _ _
    refine pm_e_sim pm_a50_9 rfl ?_
    show pm_E _ _ _ 10 [(0, .long _), (2, .long _), (4, .long _)] [.int _] _ _ _ _
    refine pm_e_ift pm_a50_10 rfl (pm_zl_gt (-1) (by decide +kernel) (by omega) (by decide +kernel)) ?_
    show pm_E _ _ _ 17 [(0, .long _), (2, .long _), (4, .long _)] [] _ _ _ _
    refine pm_e_sim pm_a50_17 rfl ?_
    refine pm_e_top (y := 0) (by decide +kernel) ?_
    show pm_E _ _ _ 18 [(0, .long _), (2, .long _), (4, .long _)] [.int 0] _ _ _ _
    refine pm_e_ret pm_a50_18 rfl rfl rfl rfl rfl rfl rfl rfl ?_
    show pm_E _ _ _ 13 [(0, .ref 18), (1, .int _)] [.int 0] _ _ _ _
    refine pm_e_ret pm_a61_13 rfl rfl rfl rfl rfl rfl rfl rfl ?_
    show pm_E _ _ _ 5 [(0, .ref 18), (1, .int _)] [.int 0] _ _ _ _
    refine pm_e_ift pm_a60_5 rfl (by decide +kernel) ?_
    show pm_E _ _ _ 17 [(0, .ref 18), (1, .int _)] [] _ _ _ _
    refine pm_e_sim pm_a60_17 rfl ?_
    refine pm_e_top (y := (-1)) (by decide +kernel) ?_
    show pm_E _ _ _ 18 [(0, .ref 18), (1, .int _)] [.int (-1)] _ _ _ _
    refine pm_e_ret pm_a60_18 rfl rfl rfl rfl rfl rfl rfl rfl ?_
    show pm_E _ _ _ 270 [(3, .int 0), (2, .ref 18), (1, .ref 0), (0, .retAddr 0)] [.int (-1), .int (-1)] _ _ _ _
    refine pm_e_ict pm_a0_270 rfl (by decide +kernel) ?_
    show pm_E _ _ _ 779 [(3, .int 0), (2, .ref 18), (1, .ref 0), (0, .retAddr 0)] [] _ _ _ _
    refine pm_e_inc (y := 6) pm_a0_779 rfl (by decide +kernel) (by decide +kernel) rfl ?_
    show pm_E _ _ _ 782 [(3, .int 6), (2, .ref 18), (1, .ref 0), (0, .retAddr 0)] [] _ _ _ _
    refine pm_e_goto pm_a0_782 rfl ?_
    show pm_E _ _ _ 18 [(3, .int 6), (2, .ref 18), (1, .ref 0), (0, .retAddr 0)] [] _ _ _ _
    refine pm_e_sim pm_a0_18 rfl ?_
    show pm_E _ _ _ 19 [(3, .int 6), (2, .ref 18), (1, .ref 0), (0, .retAddr 0)] [.int 6] _ _ _ _
    refine pm_e_sim pm_a0_19 rfl ?_
    show pm_E _ _ _ 20 [(3, .int 6), (2, .ref 18), (1, .ref 0), (0, .retAddr 0)] [.retAddr 0, .int 6] _ _ _ _
    refine pm_e_rd pm_a0_20 rfl rfl rfl ?_
    dsimp only
    refine pm_e_top (y := 6) (by decide +kernel) ?_
    show pm_E _ _ _ 21 [(3, .int 6), (2, .ref 18), (1, .ref 0), (0, .retAddr 0)] [.int 6, .int 6] _ _ _ _
    refine pm_e_sim pm_a0_21 rfl ?_
    refine pm_e_top (y := 6) (by decide +kernel) ?_
    show pm_E _ _ _ 23 [(3, .int 6), (2, .ref 18), (1, .ref 0), (0, .retAddr 0)] [.int 6, .int 6, .int 6] _ _ _ _
    refine pm_e_sim pm_a0_23 rfl ?_
    refine pm_e_top (y := 0) (by decide +kernel) ?_
    show pm_E _ _ _ 24 [(3, .int 6), (2, .ref 18), (1, .ref 0), (0, .retAddr 0)] [.int 0, .int 6] _ _ _ _
    refine pm_e_ict pm_a0_24 rfl (by decide +kernel) ?_
    show pm_E _ _ _ 785 [(3, .int 6), (2, .ref 18), (1, .ref 0), (0, .retAddr 0)] [] _ _ _ _
    refine pm_e_sim pm_a0_785 rfl ?_
    refine pm_e_top (y := 1) (by decide +kernel) ?_
    show pm_E _ _ _ 786 [(3, .int 6), (2, .ref 18), (1, .ref 0), (0, .retAddr 0)] [.int 1] _ _ _ _
    refine pm_e_ret pm_a0_786 rfl rfl rfl rfl rfl rfl rfl rfl ?_
    exact hQ _ _ _ (by decide +kernel) (by decide +kernel)
set_option maxHeartbeats 40000000 in
set_option maxRecDepth 200000 in
theorem pm_op5 (xs : Nat → Int32) {Q : Option Value → List va_E → Nat → Nat → Prop} (hQ : ∀ ph c n, c ≤ 600000 → n ≤ 7302250 → Q (some (.int 1)) ph c n) : pm_E (some (6, xs)) 11 pm_mm0 33 pm_L0 [.int (nI 5)] pm_H0 50 194358 Q := by
  refine pm_e_top (y := 5) (by decide +kernel) ?_
  rcases (show (xs 1).toInt < 0 ∨ (xs 1).toInt = 0 ∨ 0 < (xs 1).toInt by omega) with h1 | h1 | h1
  · refine pm_e_tsi (t := 275) pm_a0_33 rfl (by decide +kernel) ?_
    show pm_E _ _ _ 275 [(3, .int 0), (2, .ref 18), (1, .ref 0), (0, .retAddr 0)] [] _ _ _ _
    refine pm_e_sim pm_a0_275 rfl ?_
    show pm_E _ _ _ 276 [(3, .int 0), (2, .ref 18), (1, .ref 0), (0, .retAddr 0)] [.ref 0] _ _ _ _
    refine pm_e_sim pm_a0_276 rfl ?_
    show pm_E _ _ _ 277 [(3, .int 0), (2, .ref 18), (1, .ref 0), (0, .retAddr 0)] [.retAddr 0, .ref 0] _ _ _ _
    refine pm_e_sim pm_a0_277 rfl ?_
    show pm_E _ _ _ 278 [(3, .int 0), (2, .ref 18), (1, .ref 0), (0, .retAddr 0)] [.int 0, .retAddr 0, .ref 0] _ _ _ _
    refine pm_e_sim pm_a0_278 rfl ?_
    refine pm_e_top (y := 1) (by decide +kernel) ?_
    show pm_E _ _ _ 279 [(3, .int 0), (2, .ref 18), (1, .ref 0), (0, .retAddr 0)] [.int 1, .int 0, .retAddr 0, .ref 0] _ _ _ _
    refine pm_e_sim pm_a0_279 rfl ?_
    refine pm_e_top (y := 1) (by decide +kernel) ?_
    show pm_E _ _ _ 280 [(3, .int 0), (2, .ref 18), (1, .ref 0), (0, .retAddr 0)] [.int 1, .retAddr 0, .ref 0] _ _ _ _
    refine pm_e_sld (j := 1) pm_a0_280 (by decide +kernel) ?_
    show pm_E _ _ _ 281 [(3, .int 0), (2, .ref 18), (1, .ref 0), (0, .retAddr 0)] [.int _, .ref 0] _ _ _ _
    refine pm_e_sim pm_a0_281 rfl ?_
    show pm_E _ _ _ 282 [(3, .int 0), (2, .ref 18), (1, .ref 0), (0, .retAddr 0)] [.retAddr 0, .int _, .ref 0] _ _ _ _
    refine pm_e_sim pm_a0_282 rfl ?_
    show pm_E _ _ _ 283 [(3, .int 0), (2, .ref 18), (1, .ref 0), (0, .retAddr 0)] [.int 0, .retAddr 0, .int _, .ref 0] _ _ _ _
    refine pm_e_sim pm_a0_283 rfl ?_
    refine pm_e_top (y := 2) (by decide +kernel) ?_
    show pm_E _ _ _ 284 [(3, .int 0), (2, .ref 18), (1, .ref 0), (0, .retAddr 0)] [.int 2, .int 0, .retAddr 0, .int _, .ref 0] _ _ _ _
    refine pm_e_sim pm_a0_284 rfl ?_
    refine pm_e_top (y := 2) (by decide +kernel) ?_
    show pm_E _ _ _ 285 [(3, .int 0), (2, .ref 18), (1, .ref 0), (0, .retAddr 0)] [.int 2, .retAddr 0, .int _, .ref 0] _ _ _ _
    refine pm_e_sld (j := 2) pm_a0_285 (by decide +kernel) ?_
    show pm_E _ _ _ 286 [(3, .int 0), (2, .ref 18), (1, .ref 0), (0, .retAddr 0)] [.int _, .int _, .ref 0] _ _ _ _
    refine pm_e_call (T2 := pm_mm27) pm_a0_286 rfl rfl rfl rfl rfl rfl rfl rfl rfl ?_
    show pm_E _ _ _ 0 [(0, .ref 0), (1, .int _), (2, .int _)] [] _ _ _ _
    refine pm_e_sim pm_a27_0 rfl ?_
    show pm_E _ _ _ 1 [(0, .ref 0), (1, .int _), (2, .int _)] [.ref 0] _ _ _ _
    refine pm_e_sim pm_a27_1 rfl ?_
    show pm_E _ _ _ 2 [(0, .ref 0), (1, .int _), (2, .int _)] [.int _, .ref 0] _ _ _ _
    refine pm_e_call (T2 := pm_mm26) pm_a27_2 rfl rfl rfl rfl rfl rfl rfl rfl rfl ?_
    show pm_E _ _ _ 0 [(0, .ref 0), (1, .int _)] [] _ _ _ _
    refine pm_e_sim pm_a26_0 rfl ?_
    show pm_E _ _ _ 1 [(0, .ref 0), (1, .int _)] [.int _] _ _ _ _
    refine pm_e_ift pm_a26_1 rfl (pm_z_lt_t 0 (by decide +kernel) (by omega)) ?_
    show pm_E _ _ _ 30 [(0, .ref 0), (1, .int _)] [] _ _ _ _
    refine pm_e_sim pm_a26_30 rfl ?_
    show pm_E _ _ _ 31 [(0, .ref 0), (1, .int _)] [.null] _ _ _ _
    refine pm_e_ret pm_a26_31 rfl rfl rfl rfl rfl rfl rfl rfl ?_
    show pm_E _ _ _ 5 [(0, .ref 0), (1, .int _), (2, .int _)] [.null] _ _ _ _
    refine pm_e_sim pm_a27_5 rfl ?_
    show pm_E _ _ _ 6 [(3, .null), (0, .ref 0), (1, .int _), (2, .int _)] [] _ _ _ _
    refine pm_e_sim pm_a27_6 rfl ?_
    show pm_E _ _ _ 7 [(3, .null), (0, .ref 0), (1, .int _), (2, .int _)] [.null] _ _ _ _
    refine pm_e_jmp (pc2 := 10) pm_a27_7 rfl rfl ?_
    show pm_E _ _ _ 10 [(3, .null), (0, .ref 0), (1, .int _), (2, .int _)] [] _ _ _ _
    refine pm_e_sim pm_a27_10 rfl ?_
    refine pm_e_top (y := (-1)) (by decide +kernel) ?_
    show pm_E _ _ _ 11 [(3, .null), (0, .ref 0), (1, .int _), (2, .int _)] [.int (-1)] _ _ _ _
    refine pm_e_goto pm_a27_11 rfl ?_
    show pm_E _ _ _ 19 [(3, .null), (0, .ref 0), (1, .int _), (2, .int _)] [.int (-1)] _ _ _ _
    refine pm_e_ret pm_a27_19 rfl rfl rfl rfl rfl rfl rfl rfl ?_
    show pm_E _ _ _ 289 [(3, .int 0), (2, .ref 18), (1, .ref 0), (0, .retAddr 0)] [.int (-1)] _ _ _ _
    refine pm_e_sim pm_a0_289 rfl ?_
    show pm_E _ _ _ 290 [(3, .int 0), (2, .ref 18), (1, .ref 0), (0, .retAddr 0)] [.ref 18, .int (-1)] _ _ _ _
    refine pm_e_sim pm_a0_290 rfl ?_
    show pm_E _ _ _ 291 [(3, .int 0), (2, .ref 18), (1, .ref 0), (0, .retAddr 0)] [.retAddr 0, .ref 18, .int (-1)] _ _ _ _
    refine pm_e_sim pm_a0_291 rfl ?_
    show pm_E _ _ _ 292 [(3, .int 0), (2, .ref 18), (1, .ref 0), (0, .retAddr 0)] [.int 0, .retAddr 0, .ref 18, .int (-1)] _ _ _ _
    refine pm_e_sim pm_a0_292 rfl ?_
    refine pm_e_top (y := 1) (by decide +kernel) ?_
    show pm_E _ _ _ 293 [(3, .int 0), (2, .ref 18), (1, .ref 0), (0, .retAddr 0)] [.int 1, .int 0, .retAddr 0, .ref 18, .int (-1)] _ _ _ _
    refine pm_e_sim pm_a0_293 rfl ?_
    refine pm_e_top (y := 1) (by decide +kernel) ?_
    show pm_E _ _ _ 294 [(3, .int 0), (2, .ref 18), (1, .ref 0), (0, .retAddr 0)] [.int 1, .retAddr 0, .ref 18, .int (-1)] _ _ _ _
    refine pm_e_sld (j := 1) pm_a0_294 (by decide +kernel) ?_
    show pm_E _ _ _ 295 [(3, .int 0), (2, .ref 18), (1, .ref 0), (0, .retAddr 0)] [.int _, .ref 18, .int (-1)] _ _ _ _
    refine pm_e_sim pm_a0_295 rfl ?_
    show pm_E _ _ _ 296 [(3, .int 0), (2, .ref 18), (1, .ref 0), (0, .retAddr 0)] [.retAddr 0, .int _, .ref 18, .int (-1)] _ _ _ _
    refine pm_e_sim pm_a0_296 rfl ?_
    show pm_E _ _ _ 297 [(3, .int 0), (2, .ref 18), (1, .ref 0), (0, .retAddr 0)] [.int 0, .retAddr 0, .int _, .ref 18, .int (-1)] _ _ _ _
    refine pm_e_sim pm_a0_297 rfl ?_
    refine pm_e_top (y := 2) (by decide +kernel) ?_
    show pm_E _ _ _ 298 [(3, .int 0), (2, .ref 18), (1, .ref 0), (0, .retAddr 0)] [.int 2, .int 0, .retAddr 0, .int _, .ref 18, .int (-1)] _ _ _ _
    refine pm_e_sim pm_a0_298 rfl ?_
    refine pm_e_top (y := 2) (by decide +kernel) ?_
    show pm_E _ _ _ 299 [(3, .int 0), (2, .ref 18), (1, .ref 0), (0, .retAddr 0)] [.int 2, .retAddr 0, .int _, .ref 18, .int (-1)] _ _ _ _
    refine pm_e_sld (j := 2) pm_a0_299 (by decide +kernel) ?_
    show pm_E _ _ _ 300 [(3, .int 0), (2, .ref 18), (1, .ref 0), (0, .retAddr 0)] [.int _, .int _, .ref 18, .int (-1)] _ _ _ _
    refine pm_e_call (T2 := pm_mm62) pm_a0_300 rfl rfl rfl rfl rfl rfl rfl rfl rfl ?_
    show pm_E _ _ _ 0 [(0, .ref 18), (1, .int _), (2, .int _)] [] _ _ _ _
    refine pm_e_sim pm_a62_0 rfl ?_
    show pm_E _ _ _ 1 [(0, .ref 18), (1, .int _), (2, .int _)] [.ref 18] _ _ _ _
    refine pm_e_sim pm_a62_1 rfl ?_
    show pm_E _ _ _ 2 [(0, .ref 18), (1, .int _), (2, .int _)] [.int _, .ref 18] _ _ _ _
    refine pm_e_call (T2 := pm_mm61) pm_a62_2 rfl rfl rfl rfl rfl rfl rfl rfl rfl ?_
    show pm_E _ _ _ 0 [(0, .ref 18), (1, .int _)] [] _ _ _ _
    refine pm_e_sim pm_a61_0 rfl ?_
    show pm_E _ _ _ 1 [(0, .ref 18), (1, .int _)] [.int _] _ _ _ _
    refine pm_e_sim pm_a61_1 rfl ?_
    show pm_E _ _ _ 2 [(0, .ref 18), (1, .int _)] [.long _] _ _ _ _
    refine pm_e_sim pm_a61_2 rfl ?_
    show pm_E _ _ _ 3 [(0, .ref 18), (1, .int _)] [.long _, .long _] _ _ _ _
    refine pm_e_sim pm_a61_3 rfl ?_
    show pm_E _ _ _ 4 [(0, .ref 18), (1, .int _)] [.ref 18, .long _, .long _] _ _ _ _
    refine pm_e_rd pm_a61_4 rfl rfl rfl ?_
    show pm_E _ _ _ 7 [(0, .ref 18), (1, .int _)] [.int 0, .long _, .long _] _ _ _ _
    refine pm_e_sim pm_a61_7 rfl ?_
    refine pm_e_top (y := 1) (by decide +kernel) ?_
    show pm_E _ _ _ 8 [(0, .ref 18), (1, .int _)] [.int 1, .int 0, .long _, .long _] _ _ _ _
    refine pm_e_sim pm_a61_8 rfl ?_
    refine pm_e_top (y := (-1)) (by decide +kernel) ?_
    show pm_E _ _ _ 9 [(0, .ref 18), (1, .int _)] [.int (-1), .long _, .long _] _ _ _ _
    refine pm_e_sim pm_a61_9 rfl ?_
    show pm_E _ _ _ 10 [(0, .ref 18), (1, .int _)] [.long _, .long _, .long _] _ _ _ _
    refine pm_e_call (T2 := pm_mm50) pm_a61_10 rfl rfl rfl rfl rfl rfl rfl rfl rfl ?_
    show pm_E _ _ _ 0 [(0, .long _), (2, .long _), (4, .long _)] [] _ _ _ _
    refine pm_e_sim pm_a50_0 rfl ?_
    show pm_E _ _ _ 1 [(0, .long _), (2, .long _), (4, .long _)] [.long _] _ _ _ _
    refine pm_e_sim pm_a50_1 rfl ?_
    show pm_E _ _ _ 2 [(0, .long _), (2, .long _), (4, .long _)] [.long _, .long _] _ _ _ _
    refine pm_e_sim pm_a50_2 rfl ?_
    show pm_E _ _ _ 3 [(0, .long _), (2, .long _), (4, .long _)] [.int _] _ _ _ _
    refine pm_e_ift pm_a50_3 rfl (pm_zl_lt 0 (by decide +kernel) (by omega) (by decide +kernel)) ?_
    show pm_E _ _ _ 17 [(0, .long _), (2, .long _), (4, .long _)] [] _ _ _ _
    refine pm_e_sim pm_a50_17 rfl ?_
    refine pm_e_top (y := 0) (by decide +kernel) ?_
    show pm_E _ _ _ 18 [(0, .long _), (2, .long _), (4, .long _)] [.int 0] _ _ _ _
    refine pm_e_ret pm_a50_18 rfl rfl rfl rfl rfl rfl rfl rfl ?_
    show pm_E _ _ _ 13 [(0, .ref 18), (1, .int _)] [.int 0] _ _ _ _
    refine pm_e_ret pm_a61_13 rfl rfl rfl rfl rfl rfl rfl rfl ?_
    show pm_E _ _ _ 5 [(0, .ref 18), (1, .int _), (2, .int _)] [.int 0] _ _ _ _
    refine pm_e_ift pm_a62_5 rfl (by decide +kernel) ?_
    show pm_E _ _ _ 41 [(0, .ref 18), (1, .int _), (2, .int _)] [] _ _ _ _
    refine pm_e_sim pm_a62_41 rfl ?_
    refine pm_e_top (y := (-1)) (by decide +kernel) ?_
    show pm_E _ _ _ 42 [(0, .ref 18), (1, .int _), (2, .int _)] [.int (-1)] _ _ _ _
    refine pm_e_ret pm_a62_42 rfl rfl rfl rfl rfl rfl rfl rfl ?_
    show pm_E _ _ _ 303 [(3, .int 0), (2, .ref 18), (1, .ref 0), (0, .retAddr 0)] [.int (-1), .int (-1)] _ _ _ _
    refine pm_e_ict pm_a0_303 rfl (by decide +kernel) ?_
    show pm_E _ _ _ 779 [(3, .int 0), (2, .ref 18), (1, .ref 0), (0, .retAddr 0)] [] _ _ _ _
    refine pm_e_inc (y := 6) pm_a0_779 rfl (by decide +kernel) (by decide +kernel) rfl ?_
    show pm_E _ _ _ 782 [(3, .int 6), (2, .ref 18), (1, .ref 0), (0, .retAddr 0)] [] _ _ _ _
    refine pm_e_goto pm_a0_782 rfl ?_
    show pm_E _ _ _ 18 [(3, .int 6), (2, .ref 18), (1, .ref 0), (0, .retAddr 0)] [] _ _ _ _
    refine pm_e_sim pm_a0_18 rfl ?_
    show pm_E _ _ _ 19 [(3, .int 6), (2, .ref 18), (1, .ref 0), (0, .retAddr 0)] [.int 6] _ _ _ _
    refine pm_e_sim pm_a0_19 rfl ?_
    show pm_E _ _ _ 20 [(3, .int 6), (2, .ref 18), (1, .ref 0), (0, .retAddr 0)] [.retAddr 0, .int 6] _ _ _ _
    refine pm_e_rd pm_a0_20 rfl rfl rfl ?_
    dsimp only
    refine pm_e_top (y := 6) (by decide +kernel) ?_
    show pm_E _ _ _ 21 [(3, .int 6), (2, .ref 18), (1, .ref 0), (0, .retAddr 0)] [.int 6, .int 6] _ _ _ _
    refine pm_e_sim pm_a0_21 rfl ?_
    refine pm_e_top (y := 6) (by decide +kernel) ?_
    show pm_E _ _ _ 23 [(3, .int 6), (2, .ref 18), (1, .ref 0), (0, .retAddr 0)] [.int 6, .int 6, .int 6] _ _ _ _
    refine pm_e_sim pm_a0_23 rfl ?_
    refine pm_e_top (y := 0) (by decide +kernel) ?_
    show pm_E _ _ _ 24 [(3, .int 6), (2, .ref 18), (1, .ref 0), (0, .retAddr 0)] [.int 0, .int 6] _ _ _ _
    refine pm_e_ict pm_a0_24 rfl (by decide +kernel) ?_
    show pm_E _ _ _ 785 [(3, .int 6), (2, .ref 18), (1, .ref 0), (0, .retAddr 0)] [] _ _ _ _
    refine pm_e_sim pm_a0_785 rfl ?_
    refine pm_e_top (y := 1) (by decide +kernel) ?_
    show pm_E _ _ _ 786 [(3, .int 6), (2, .ref 18), (1, .ref 0), (0, .retAddr 0)] [.int 1] _ _ _ _
    refine pm_e_ret pm_a0_786 rfl rfl rfl rfl rfl rfl rfl rfl ?_
    exact hQ _ _ _ (by decide +kernel) (by decide +kernel)
  · refine pm_e_tsi (t := 275) pm_a0_33 rfl (by decide +kernel) ?_
    show pm_E _ _ _ 275 [(3, .int 0), (2, .ref 18), (1, .ref 0), (0, .retAddr 0)] [] _ _ _ _
    refine pm_e_sim pm_a0_275 rfl ?_
    show pm_E _ _ _ 276 [(3, .int 0), (2, .ref 18), (1, .ref 0), (0, .retAddr 0)] [.ref 0] _ _ _ _
    refine pm_e_sim pm_a0_276 rfl ?_
    show pm_E _ _ _ 277 [(3, .int 0), (2, .ref 18), (1, .ref 0), (0, .retAddr 0)] [.retAddr 0, .ref 0] _ _ _ _
    refine pm_e_sim pm_a0_277 rfl ?_
    show pm_E _ _ _ 278 [(3, .int 0), (2, .ref 18), (1, .ref 0), (0, .retAddr 0)] [.int 0, .retAddr 0, .ref 0] _ _ _ _
    refine pm_e_sim pm_a0_278 rfl ?_
    refine pm_e_top (y := 1) (by decide +kernel) ?_
    show pm_E _ _ _ 279 [(3, .int 0), (2, .ref 18), (1, .ref 0), (0, .retAddr 0)] [.int 1, .int 0, .retAddr 0, .ref 0] _ _ _ _
    refine pm_e_sim pm_a0_279 rfl ?_
    refine pm_e_top (y := 1) (by decide +kernel) ?_
    show pm_E _ _ _ 280 [(3, .int 0), (2, .ref 18), (1, .ref 0), (0, .retAddr 0)] [.int 1, .retAddr 0, .ref 0] _ _ _ _
    refine pm_e_sld (j := 1) pm_a0_280 (by decide +kernel) ?_
    show pm_E _ _ _ 281 [(3, .int 0), (2, .ref 18), (1, .ref 0), (0, .retAddr 0)] [.int _, .ref 0] _ _ _ _
    refine pm_e_sim pm_a0_281 rfl ?_
    show pm_E _ _ _ 282 [(3, .int 0), (2, .ref 18), (1, .ref 0), (0, .retAddr 0)] [.retAddr 0, .int _, .ref 0] _ _ _ _
    refine pm_e_sim pm_a0_282 rfl ?_
    show pm_E _ _ _ 283 [(3, .int 0), (2, .ref 18), (1, .ref 0), (0, .retAddr 0)] [.int 0, .retAddr 0, .int _, .ref 0] _ _ _ _
    refine pm_e_sim pm_a0_283 rfl ?_
    refine pm_e_top (y := 2) (by decide +kernel) ?_
    show pm_E _ _ _ 284 [(3, .int 0), (2, .ref 18), (1, .ref 0), (0, .retAddr 0)] [.int 2, .int 0, .retAddr 0, .int _, .ref 0] _ _ _ _
    refine pm_e_sim pm_a0_284 rfl ?_
    refine pm_e_top (y := 2) (by decide +kernel) ?_
    show pm_E _ _ _ 285 [(3, .int 0), (2, .ref 18), (1, .ref 0), (0, .retAddr 0)] [.int 2, .retAddr 0, .int _, .ref 0] _ _ _ _
    refine pm_e_sld (j := 2) pm_a0_285 (by decide +kernel) ?_
    show pm_E _ _ _ 286 [(3, .int 0), (2, .ref 18), (1, .ref 0), (0, .retAddr 0)] [.int _, .int _, .ref 0] _ _ _ _
    refine pm_e_call (T2 := pm_mm27) pm_a0_286 rfl rfl rfl rfl rfl rfl rfl rfl rfl ?_
    show pm_E _ _ _ 0 [(0, .ref 0), (1, .int _), (2, .int _)] [] _ _ _ _
    refine pm_e_sim pm_a27_0 rfl ?_
    show pm_E _ _ _ 1 [(0, .ref 0), (1, .int _), (2, .int _)] [.ref 0] _ _ _ _
    refine pm_e_sim pm_a27_1 rfl ?_
    show pm_E _ _ _ 2 [(0, .ref 0), (1, .int _), (2, .int _)] [.int _, .ref 0] _ _ _ _
    refine pm_e_call (T2 := pm_mm26) pm_a27_2 rfl rfl rfl rfl rfl rfl rfl rfl rfl ?_
    show pm_E _ _ _ 0 [(0, .ref 0), (1, .int _)] [] _ _ _ _
    refine pm_e_sim pm_a26_0 rfl ?_
    show pm_E _ _ _ 1 [(0, .ref 0), (1, .int _)] [.int _] _ _ _ _
    refine pm_e_iff pm_a26_1 rfl (pm_z_lt_f 0 (by decide +kernel) (by omega)) ?_
    show pm_E _ _ _ 4 [(0, .ref 0), (1, .int _)] [] _ _ _ _
    refine pm_e_sim pm_a26_4 rfl ?_
    show pm_E _ _ _ 5 [(0, .ref 0), (1, .int _)] [.int _] _ _ _ _
    refine pm_e_sim pm_a26_5 rfl ?_
    show pm_E _ _ _ 6 [(0, .ref 0), (1, .int _)] [.ref 0, .int _] _ _ _ _
    refine pm_e_rd pm_a26_6 rfl rfl rfl ?_
    show pm_E _ _ _ 9 [(0, .ref 0), (1, .int _)] [.int 0, .int _] _ _ _ _
    refine pm_e_ict pm_a26_9 rfl (pm_z_ge_t 0 (by decide +kernel) (by omega)) ?_
    show pm_E _ _ _ 30 [(0, .ref 0), (1, .int _)] [] _ _ _ _
    refine pm_e_sim pm_a26_30 rfl ?_
    show pm_E _ _ _ 31 [(0, .ref 0), (1, .int _)] [.null] _ _ _ _
    refine pm_e_ret pm_a26_31 rfl rfl rfl rfl rfl rfl rfl rfl ?_
    show pm_E _ _ _ 5 [(0, .ref 0), (1, .int _), (2, .int _)] [.null] _ _ _ _
    refine pm_e_sim pm_a27_5 rfl ?_
    show pm_E _ _ _ 6 [(3, .null), (0, .ref 0), (1, .int _), (2, .int _)] [] _ _ _ _
    refine pm_e_sim pm_a27_6 rfl ?_
    show pm_E _ _ _ 7 [(3, .null), (0, .ref 0), (1, .int _), (2, .int _)] [.null] _ _ _ _
    refine pm_e_jmp (pc2 := 10) pm_a27_7 rfl rfl ?_
    show pm_E _ _ _ 10 [(3, .null), (0, .ref 0), (1, .int _), (2, .int _)] [] _ _ _ _
    refine pm_e_sim pm_a27_10 rfl ?_
    refine pm_e_top (y := (-1)) (by decide +kernel) ?_
    show pm_E _ _ _ 11 [(3, .null), (0, .ref 0), (1, .int _), (2, .int _)] [.int (-1)] _ _ _ _
    refine pm_e_goto pm_a27_11 rfl ?_
    show pm_E _ _ _ 19 [(3, .null), (0, .ref 0), (1, .int _), (2, .int _)] [.int (-1)] _ _ _ _
    refine pm_e_ret pm_a27_19 rfl rfl rfl rfl rfl rfl rfl rfl ?_
    show pm_E _ _ _ 289 [(3, .int 0), (2, .ref 18), (1, .ref 0), (0, .retAddr 0)] [.int (-1)] _ _ _ _
    refine pm_e_sim pm_a0_289 rfl ?_
    show pm_E _ _ _ 290 [(3, .int 0), (2, .ref 18), (1, .ref 0), (0, .retAddr 0)] [.ref 18, .int (-1)] _ _ _ _
    refine pm_e_sim pm_a0_290 rfl ?_
    show pm_E _ _ _ 291 [(3, .int 0), (2, .ref 18), (1, .ref 0), (0, .retAddr 0)] [.retAddr 0, .ref 18, .int (-1)] _ _ _ _
    refine pm_e_sim pm_a0_291 rfl ?_
    show pm_E _ _ _ 292 [(3, .int 0), (2, .ref 18), (1, .ref 0), (0, .retAddr 0)] [.int 0, .retAddr 0, .ref 18, .int (-1)] _ _ _ _
    refine pm_e_sim pm_a0_292 rfl ?_
    refine pm_e_top (y := 1) (by decide +kernel) ?_
    show pm_E _ _ _ 293 [(3, .int 0), (2, .ref 18), (1, .ref 0), (0, .retAddr 0)] [.int 1, .int 0, .retAddr 0, .ref 18, .int (-1)] _ _ _ _
    refine pm_e_sim pm_a0_293 rfl ?_
    refine pm_e_top (y := 1) (by decide +kernel) ?_
    show pm_E _ _ _ 294 [(3, .int 0), (2, .ref 18), (1, .ref 0), (0, .retAddr 0)] [.int 1, .retAddr 0, .ref 18, .int (-1)] _ _ _ _
    refine pm_e_sld (j := 1) pm_a0_294 (by decide +kernel) ?_
    show pm_E _ _ _ 295 [(3, .int 0), (2, .ref 18), (1, .ref 0), (0, .retAddr 0)] [.int _, .ref 18, .int (-1)] _ _ _ _
    refine pm_e_sim pm_a0_295 rfl ?_
    show pm_E _ _ _ 296 [(3, .int 0), (2, .ref 18), (1, .ref 0), (0, .retAddr 0)] [.retAddr 0, .int _, .ref 18, .int (-1)] _ _ _ _
    refine pm_e_sim pm_a0_296 rfl ?_
    show pm_E _ _ _ 297 [(3, .int 0), (2, .ref 18), (1, .ref 0), (0, .retAddr 0)] [.int 0, .retAddr 0, .int _, .ref 18, .int (-1)] _ _ _ _
    refine pm_e_sim pm_a0_297 rfl ?_
    refine pm_e_top (y := 2) (by decide +kernel) ?_
    show pm_E _ _ _ 298 [(3, .int 0), (2, .ref 18), (1, .ref 0), (0, .retAddr 0)] [.int 2, .int 0, .retAddr 0, .int _, .ref 18, .int (-1)] _ _ _ _
    refine pm_e_sim pm_a0_298 rfl ?_
    refine pm_e_top (y := 2) (by decide +kernel) ?_
    show pm_E _ _ _ 299 [(3, .int 0), (2, .ref 18), (1, .ref 0), (0, .retAddr 0)] [.int 2, .retAddr 0, .int _, .ref 18, .int (-1)] _ _ _ _
    refine pm_e_sld (j := 2) pm_a0_299 (by decide +kernel) ?_
    show pm_E _ _ _ 300 [(3, .int 0), (2, .ref 18), (1, .ref 0), (0, .retAddr 0)] [.int _, .int _, .ref 18, .int (-1)] _ _ _ _
    refine pm_e_call (T2 := pm_mm62) pm_a0_300 rfl rfl rfl rfl rfl rfl rfl rfl rfl ?_
    show pm_E _ _ _ 0 [(0, .ref 18), (1, .int _), (2, .int _)] [] _ _ _ _
    refine pm_e_sim pm_a62_0 rfl ?_
    show pm_E _ _ _ 1 [(0, .ref 18), (1, .int _), (2, .int _)] [.ref 18] _ _ _ _
    refine pm_e_sim pm_a62_1 rfl ?_
    show pm_E _ _ _ 2 [(0, .ref 18), (1, .int _), (2, .int _)] [.int _, .ref 18] _ _ _ _
    refine pm_e_call (T2 := pm_mm61) pm_a62_2 rfl rfl rfl rfl rfl rfl rfl rfl rfl ?_
    show pm_E _ _ _ 0 [(0, .ref 18), (1, .int _)] [] _ _ _ _
    refine pm_e_sim pm_a61_0 rfl ?_
    show pm_E _ _ _ 1 [(0, .ref 18), (1, .int _)] [.int _] _ _ _ _
    refine pm_e_sim pm_a61_1 rfl ?_
    show pm_E _ _ _ 2 [(0, .ref 18), (1, .int _)] [.long _] _ _ _ _
    refine pm_e_sim pm_a61_2 rfl ?_
    show pm_E _ _ _ 3 [(0, .ref 18), (1, .int _)] [.long _, .long _] _ _ _ _
    refine pm_e_sim pm_a61_3 rfl ?_
    show pm_E _ _ _ 4 [(0, .ref 18), (1, .int _)] [.ref 18, .long _, .long _] _ _ _ _
    refine pm_e_rd pm_a61_4 rfl rfl rfl ?_
    show pm_E _ _ _ 7 [(0, .ref 18), (1, .int _)] [.int 0, .long _, .long _] _ _ _ _
    refine pm_e_sim pm_a61_7 rfl ?_
    refine pm_e_top (y := 1) (by decide +kernel) ?_
    show pm_E _ _ _ 8 [(0, .ref 18), (1, .int _)] [.int 1, .int 0, .long _, .long _] _ _ _ _
    refine pm_e_sim pm_a61_8 rfl ?_
    refine pm_e_top (y := (-1)) (by decide +kernel) ?_
    show pm_E _ _ _ 9 [(0, .ref 18), (1, .int _)] [.int (-1), .long _, .long _] _ _ _ _
    refine pm_e_sim pm_a61_9 rfl ?_
    show pm_E _ _ _ 10 [(0, .ref 18), (1, .int _)] [.long _, .long _, .long _] _ _ _ _
    refine pm_e_call (T2 := pm_mm50) pm_a61_10 rfl rfl rfl rfl rfl rfl rfl rfl rfl ?_
    show pm_E _ _ _ 0 [(0, .long _), (2, .long _), (4, .long _)] [] _ _ _ _
    refine pm_e_sim pm_a50_0 rfl ?_
    show pm_E _ _ _ 1 [(0, .long _), (2, .long _), (4, .long _)] [.long _] _ _ _ _
    refine pm_e_sim pm_a50_1 rfl ?_
    show pm_E _ _ _ 2 [(0, .long _), (2, .long _), (4, .long _)] [.long _, .long _] _ _ _ _
    refine pm_e_sim pm_a50_2 rfl ?_
    show pm_E _ _ _ 3 [(0, .long _), (2, .long _), (4, .long _)] [.int _] _ _ _ _
    refine pm_e_iff pm_a50_3 rfl (pm_zl_eq 0 (by decide +kernel) (by omega) (by decide +kernel)) ?_
    show pm_E _ _ _ 6 [(0, .long _), (2, .long _), (4, .long _)] [] _ _ _ _
    refine pm_e_sim pm_a50_6 rfl ?_
    show pm_E _ _ _ 7 [(0, .long _), (2, .long _), (4, .long _)] [.long _] _ _ _ _
    refine pm_e_sim pm_a50_7 rfl ?_
    show pm_E _ _ _ 9 [(0, .long _), (2, .long _), (4, .long _)] [.long _, .long _] _ _ _ _
    refine pm_e_sim pm_a50_9 rfl ?_
    show pm_E _ _ _ 10 [(0, .long _), (2, .long _), (4, .long _)] [.int _] _ _ _ _
    refine pm_e_ift pm_a50_10 rfl (pm_zl_gt (-1) (by decide +kernel) (by omega) (by decide +kernel)) ?_
    show pm_E _ _ _ 17 [(0, .long _), (2, .long _), (4, .long _)] [] _ _ _ _
    refine pm_e_sim pm_a50_17 rfl ?_
    refine pm_e_top (y := 0) (by decide +kernel) ?_
    show pm_E _ _ _ 18 [(0, .long _), (2, .long _), (4, .long _)] [.int 0] _ _ _ _
    refine pm_e_ret pm_a50_18 rfl rfl rfl rfl rfl rfl rfl rfl ?_
    show pm_E _ _ _ 13 [(0, .ref 18), (1, .int _)] [.int 0] _ _ _ _
    refine pm_e_ret pm_a61_13 rfl rfl rfl rfl rfl rfl rfl rfl ?_
    show pm_E _ _ _ 5 [(0, .ref 18), (1, .int _), (2, .int _)] [.int 0] _ _ _ _
    refine pm_e_ift pm_a62_5 rfl (by decide +kernel) ?_
    show pm_E _ _ _ 41 [(0, .ref 18), (1, .int _), (2, .int _)] [] _ _ _ _
    refine pm_e_sim pm_a62_41 rfl ?_
    refine pm_e_top (y := (-1)) (by decide +kernel) ?_
    show pm_E _ _ _ 42 [(0, .ref 18), (1, .int _), (2, .int _)] [.int (-1)] _ _ _ _
    refine pm_e_ret pm_a62_42 rfl rfl rfl rfl rfl rfl rfl rfl ?_
    show pm_E _ _ _ 303 [(3, .int 0), (2, .ref 18), (1, .ref 0), (0, .retAddr 0)] [.int (-1), .int (-1)] _ _ _ _
    refine pm_e_ict pm_a0_303 rfl (by decide +kernel) ?_
    show pm_E _ _ _ 779 [(3, .int 0), (2, .ref 18), (1, .ref 0), (0, .retAddr 0)] [] _ _ _ _
    refine pm_e_inc (y := 6) pm_a0_779 rfl (by decide +kernel) (by decide +kernel) rfl ?_
    show pm_E _ _ _ 782 [(3, .int 6), (2, .ref 18), (1, .ref 0), (0, .retAddr 0)] [] _ _ _ _
    refine pm_e_goto pm_a0_782 rfl ?_
    show pm_E _ _ _ 18 [(3, .int 6), (2, .ref 18), (1, .ref 0), (0, .retAddr 0)] [] _ _ _ _
    refine pm_e_sim pm_a0_18 rfl ?_
    show pm_E _ _ _ 19 [(3, .int 6), (2, .ref 18), (1, .ref 0), (0, .retAddr 0)] [.int 6] _ _ _ _
    refine pm_e_sim pm_a0_19 rfl ?_
    show pm_E _ _ _ 20 [(3, .int 6), (2, .ref 18), (1, .ref 0), (0, .retAddr 0)] [.retAddr 0, .int 6] _ _ _ _
    refine pm_e_rd pm_a0_20 rfl rfl rfl ?_
    dsimp only
    refine pm_e_top (y := 6) (by decide +kernel) ?_
    show pm_E _ _ _ 21 [(3, .int 6), (2, .ref 18), (1, .ref 0), (0, .retAddr 0)] [.int 6, .int 6] _ _ _ _
    refine pm_e_sim pm_a0_21 rfl ?_
    refine pm_e_top (y := 6) (by decide +kernel) ?_
    show pm_E _ _ _ 23 [(3, .int 6), (2, .ref 18), (1, .ref 0), (0, .retAddr 0)] [.int 6, .int 6, .int 6] _ _ _ _
    refine pm_e_sim pm_a0_23 rfl ?_
    refine pm_e_top (y := 0) (by decide +kernel) ?_
    show pm_E _ _ _ 24 [(3, .int 6), (2, .ref 18), (1, .ref 0), (0, .retAddr 0)] [.int 0, .int 6] _ _ _ _
    refine pm_e_ict pm_a0_24 rfl (by decide +kernel) ?_
    show pm_E _ _ _ 785 [(3, .int 6), (2, .ref 18), (1, .ref 0), (0, .retAddr 0)] [] _ _ _ _
    refine pm_e_sim pm_a0_785 rfl ?_
    refine pm_e_top (y := 1) (by decide +kernel) ?_
    show pm_E _ _ _ 786 [(3, .int 6), (2, .ref 18), (1, .ref 0), (0, .retAddr 0)] [.int 1] _ _ _ _
    refine pm_e_ret pm_a0_786 rfl rfl rfl rfl rfl rfl rfl rfl ?_
    exact hQ _ _ _ (by decide +kernel) (by decide +kernel)
  · refine pm_e_tsi (t := 275) pm_a0_33 rfl (by decide +kernel) ?_
    show pm_E _ _ _ 275 [(3, .int 0), (2, .ref 18), (1, .ref 0), (0, .retAddr 0)] [] _ _ _ _
    refine pm_e_sim pm_a0_275 rfl ?_
    show pm_E _ _ _ 276 [(3, .int 0), (2, .ref 18), (1, .ref 0), (0, .retAddr 0)] [.ref 0] _ _ _ _
    refine pm_e_sim pm_a0_276 rfl ?_
    show pm_E _ _ _ 277 [(3, .int 0), (2, .ref 18), (1, .ref 0), (0, .retAddr 0)] [.retAddr 0, .ref 0] _ _ _ _
    refine pm_e_sim pm_a0_277 rfl ?_
    show pm_E _ _ _ 278 [(3, .int 0), (2, .ref 18), (1, .ref 0), (0, .retAddr 0)] [.int 0, .retAddr 0, .ref 0] _ _ _ _
    refine pm_e_sim pm_a0_278 rfl ?_
    refine pm_e_top (y := 1) (by decide +kernel) ?_
    show pm_E _ _ _ 279 [(3, .int 0), (2, .ref 18), (1, .ref 0), (0, .retAddr 0)] [.int 1, .int 0, .retAddr 0, .ref 0] _ _ _ _
    refine pm_e_sim pm_a0_279 rfl ?_
    refine pm_e_top (y := 1) (by decide +kernel) ?_
    show pm_E _ _ _ 280 [(3, .int 0), (2, .ref 18), (1, .ref 0), (0, .retAddr 0)] [.int 1, .retAddr 0, .ref 0] _ _ _ _
    refine pm_e_sld (j := 1) pm_a0_280 (by decide +kernel) ?_
    show pm_E _ _ _ 281 [(3, .int 0), (2, .ref 18), (1, .ref 0), (0, .retAddr 0)] [.int _, .ref 0] _ _ _ _
    refine pm_e_sim pm_a0_281 rfl ?_
    show pm_E _ _ _ 282 [(3, .int 0), (2, .ref 18), (1, .ref 0), (0, .retAddr 0)] [.retAddr 0, .int _, .ref 0] _ _ _ _
    refine pm_e_sim pm_a0_282 rfl ?_
    show pm_E _ _ _ 283 [(3, .int 0), (2, .ref 18), (1, .ref 0), (0, .retAddr 0)] [.int 0, .retAddr 0, .int _, .ref 0] _ _ _ _
    refine pm_e_sim pm_a0_283 rfl ?_
    refine pm_e_top (y := 2) (by decide +kernel) ?_
    show pm_E _ _ _ 284 [(3, .int 0), (2, .ref 18), (1, .ref 0), (0, .retAddr 0)] [.int 2, .int 0, .retAddr 0, .int _, .ref 0] _ _ _ _
    refine pm_e_sim pm_a0_284 rfl ?_
    refine pm_e_top (y := 2) (by decide +kernel) ?_
    show pm_E _ _ _ 285 [(3, .int 0), (2, .ref 18), (1, .ref 0), (0, .retAddr 0)] [.int 2, .retAddr 0, .int _, .ref 0] _ _ _ _
    refine pm_e_sld (j := 2) pm_a0_285 (by decide +kernel) ?_
    show pm_E _ _ _ 286 [(3, .int 0), (2, .ref 18), (1, .ref 0), (0, .retAddr 0)] [.int _, .int _, .ref 0] _ _ _ _
    refine pm_e_call (T2 := pm_mm27) pm_a0_286 rfl rfl rfl rfl rfl rfl rfl rfl rfl ?_
    show pm_E _ _ _ 0 [(0, .ref 0), (1, .int _), (2, .int _)] [] _ _ _ _
    refine pm_e_sim pm_a27_0 rfl ?_
    show pm_E _ _ _ 1 [(0, .ref 0), (1, .int _), (2, .int _)] [.ref 0] _ _ _ _
    refine pm_e_sim pm_a27_1 rfl ?_
    show pm_E _ _ _ 2 [(0, .ref 0), (1, .int _), (2, .int _)] [.int _, .ref 0] _ _ _ _
    refine pm_e_call (T2 := pm_mm26) pm_a27_2 rfl rfl rfl rfl rfl rfl rfl rfl rfl ?_
    show pm_E _ _ _ 0 [(0, .ref 0), (1, .int _)] [] _ _ _ _
    refine pm_e_sim pm_a26_0 rfl ?_
    show pm_E _ _ _ 1 [(0, .ref 0), (1, .int _)] [.int _] _ _ _ _
    refine pm_e_iff pm_a26_1 rfl (pm_z_lt_f 0 (by decide +kernel) (by omega)) ?_
    show pm_E _ _ _ 4 [(0, .ref 0), (1, .int _)] [] _ _ _ _
    refine pm_e_sim pm_a26_4 rfl ?_
    show pm_E _ _ _ 5 [(0, .ref 0), (1, .int _)] [.int _] _ _ _ _
    refine pm_e_sim pm_a26_5 rfl ?_
    show pm_E _ _ _ 6 [(0, .ref 0), (1, .int _)] [.ref 0, .int _] _ _ _ _
    refine pm_e_rd pm_a26_6 rfl rfl rfl ?_
    show pm_E _ _ _ 9 [(0, .ref 0), (1, .int _)] [.int 0, .int _] _ _ _ _
    refine pm_e_ict pm_a26_9 rfl (pm_z_ge_t 0 (by decide +kernel) (by omega)) ?_
    show pm_E _ _ _ 30 [(0, .ref 0), (1, .int _)] [] _ _ _ _
    refine pm_e_sim pm_a26_30 rfl ?_
    show pm_E _ _ _ 31 [(0, .ref 0), (1, .int _)] [.null] _ _ _ _
    refine pm_e_ret pm_a26_31 rfl rfl rfl rfl rfl rfl rfl rfl ?_
    show pm_E _ _ _ 5 [(0, .ref 0), (1, .int _), (2, .int _)] [.null] _ _ _ _
    refine pm_e_sim pm_a27_5 rfl ?_
    show pm_E _ _ _ 6 [(3, .null), (0, .ref 0), (1, .int _), (2, .int _)] [] _ _ _ _
    refine pm_e_sim pm_a27_6 rfl ?_
    show pm_E _ _ _ 7 [(3, .null), (0, .ref 0), (1, .int _), (2, .int _)] [.null] _ _ _ _
    refine pm_e_jmp (pc2 := 10) pm_a27_7 rfl rfl ?_
    show pm_E _ _ _ 10 [(3, .null), (0, .ref 0), (1, .int _), (2, .int _)] [] _ _ _ _
    refine pm_e_sim pm_a27_10 rfl ?_
    refine pm_e_top (y := (-1)) (by decide +kernel) ?_
    show pm_E _ _ _ 11 [(3, .null), (0, .ref 0), (1, .int _), (2, .int _)] [.int (-1)] _ _ _ _
    refine pm_e_goto pm_a27_11 rfl ?_
    show pm_E _ _ _ 19 [(3, .null), (0, .ref 0), (1, .int _), (2, .int _)] [.int (-1)] _ _ _ _
    refine pm_e_ret pm_a27_19 rfl rfl rfl rfl rfl rfl rfl rfl ?_
    show pm_E _ _ _ 289 [(3, .int 0), (2, .ref 18), (1, .ref 0), (0, .retAddr 0)] [.int (-1)] _ _ _ _
    refine pm_e_sim pm_a0_289 rfl ?_
    show pm_E _ _ _ 290 [(3, .int 0), (2, .ref 18), (1, .ref 0), (0, .retAddr 0)] [.ref 18, .int (-1)] _ _ _ _
    refine pm_e_sim pm_a0_290 rfl ?_
    show pm_E _ _ _ 291 [(3, .int 0), (2, .ref 18), (1, .ref 0), (0, .retAddr 0)] [.retAddr 0, .ref 18, .int (-1)] _ _ _ _
    refine pm_e_sim pm_a0_291 rfl ?_
    show pm_E _ _ _ 292 [(3, .int 0), (2, .ref 18), (1, .ref 0), (0, .retAddr 0)] [.int 0, .retAddr 0, .ref 18, .int (-1)] _ _ _ _
    refine pm_e_sim pm_a0_292 rfl ?_
    refine pm_e_top (y := 1) (by decide +kernel) ?_
    show pm_E _ _ _ 293 [(3, .int 0), (2, .ref 18), (1, .ref 0), (0, .retAddr 0)] [.int 1, .int 0, .retAddr 0, .ref 18, .int (-1)] _ _ _ _
    refine pm_e_sim pm_a0_293 rfl ?_
    refine pm_e_top (y := 1) (by decide +kernel) ?_
    show pm_E _ _ _ 294 [(3, .int 0), (2, .ref 18), (1, .ref 0), (0, .retAddr 0)] [.int 1, .retAddr 0, .ref 18, .int (-1)] _ _ _ _
    refine pm_e_sld (j := 1) pm_a0_294 (by decide +kernel) ?_
    show pm_E _ _ _ 295 [(3, .int 0), (2, .ref 18), (1, .ref 0), (0, .retAddr 0)] [.int _, .ref 18, .int (-1)] _ _ _ _
    refine pm_e_sim pm_a0_295 rfl ?_
    show pm_E _ _ _ 296 [(3, .int 0), (2, .ref 18), (1, .ref 0), (0, .retAddr 0)] [.retAddr 0, .int _, .ref 18, .int (-1)] _ _ _ _
    refine pm_e_sim pm_a0_296 rfl ?_
    show pm_E _ _ _ 297 [(3, .int 0), (2, .ref 18), (1, .ref 0), (0, .retAddr 0)] [.int 0, .retAddr 0, .int _, .ref 18, .int (-1)] _ _ _ _
    refine pm_e_sim pm_a0_297 rfl ?_
    refine pm_e_top (y := 2) (by decide +kernel) ?_
    show pm_E _ _ _ 298 [(3, .int 0), (2, .ref 18), (1, .ref 0), (0, .retAddr 0)] [.int 2, .int 0, .retAddr 0, .int _, .ref 18, .int (-1)] _ _ _ _
    refine pm_e_sim pm_a0_298 rfl ?_
    refine pm_e_top (y := 2) (by decide +kernel) ?_
    show pm_E _ _ _ 299 [(3, .int 0), (2, .ref 18), (1, .ref 0), (0, .retAddr 0)] [.int 2, .retAddr 0, .int _, .ref 18, .int (-1)] _ _ _ _
    refine pm_e_sld (j := 2) pm_a0_299 (by decide +kernel) ?_
    show pm_E _ _ _ 300 [(3, .int 0), (2, .ref 18), (1, .ref 0), (0, .retAddr 0)] [.int _, .int _, .ref 18, .int (-1)] _ _ _ _
    refine pm_e_call (T2 := pm_mm62) pm_a0_300 rfl rfl rfl rfl rfl rfl rfl rfl rfl ?_
    show pm_E _ _ _ 0 [(0, .ref 18), (1, .int _), (2, .int _)] [] _ _ _ _
    refine pm_e_sim pm_a62_0 rfl ?_
    show pm_E _ _ _ 1 [(0, .ref 18), (1, .int _), (2, .int _)] [.ref 18] _ _ _ _
    refine pm_e_sim pm_a62_1 rfl ?_
    show pm_E _ _ _ 2 [(0, .ref 18), (1, .int _), (2, .int _)] [.int _, .ref 18] _ _ _ _
    refine pm_e_call (T2 := pm_mm61) pm_a62_2 rfl rfl rfl rfl rfl rfl rfl rfl rfl ?_
    show pm_E _ _ _ 0 [(0, .ref 18), (1, .int _)] [] _ _ _ _
    refine pm_e_sim pm_a61_0 rfl ?_
    show pm_E _ _ _ 1 [(0, .ref 18), (1, .int _)] [.int _] _ _ _ _
    refine pm_e_sim pm_a61_1 rfl ?_
    show pm_E _ _ _ 2 [(0, .ref 18), (1, .int _)] [.long _] _ _ _ _
    refine pm_e_sim pm_a61_2 rfl ?_
    show pm_E _ _ _ 3 [(0, .ref 18), (1, .int _)] [.long _, .long _] _ _ _ _
    refine pm_e_sim pm_a61_3 rfl ?_
    show pm_E _ _ _ 4 [(0, .ref 18), (1, .int _)] [.ref 18, .long _, .long _] _ _ _ _
    refine pm_e_rd pm_a61_4 rfl rfl rfl ?_
    show pm_E _ _ _ 7 [(0, .ref 18), (1, .int _)] [.int 0, .long _, .long _] _ _ _ _
    refine pm_e_sim pm_a61_7 rfl ?_
    refine pm_e_top (y := 1) (by decide +kernel) ?_
    show pm_E _ _ _ 8 [(0, .ref 18), (1, .int _)] [.int 1, .int 0, .long _, .long _] _ _ _ _
    refine pm_e_sim pm_a61_8 rfl ?_
    refine pm_e_top (y := (-1)) (by decide +kernel) ?_
    show pm_E _ _ _ 9 [(0, .ref 18), (1, .int _)] [.int (-1), .long _, .long _] _ _ _ _
    refine pm_e_sim pm_a61_9 rfl ?_
    show pm_E _ _ _ 10 [(0, .ref 18), (1, .int _)] [.long _, .long _, .long _] _ _ _ _
    refine pm_e_call (T2 := pm_mm50) pm_a61_10 rfl rfl rfl rfl rfl rfl rfl rfl rfl ?_
    show pm_E _ _ _ 0 [(0, .long _), (2, .long _), (4, .long _)] [] _ _ _ _
    refine pm_e_sim pm_a50_0 rfl ?_
    show pm_E _ _ _ 1 [(0, .long _), (2, .long _), (4, .long _)] [.long _] _ _ _ _
    refine pm_e_sim pm_a50_1 rfl ?_
    show pm_E _ _ _ 2 [(0, .long _), (2, .long _), (4, .long _)] [.long _, .long _] _ _ _ _
    refine pm_e_sim pm_a50_2 rfl ?_
    show pm_E _ _ _ 3 [(0, .long _), (2, .long _), (4, .long _)] [.int _] _ _ _ _
    refine pm_e_iff pm_a50_3 rfl (pm_zl_gt 0 (by decide +kernel) (by omega) (by decide +kernel)) ?_
    show pm_E _ _ _ 6 [(0, .long _), (2, .long _), (4, .long _)] [] _ _ _ _
    refine pm_e_sim pm_a50_6 rfl ?_
    show pm_E _ _ _ 7 [(0, .long _), (2, .long _), (4, .long _)] [.long _] _ _ _ _
    refine pm_e_sim pm_a50_7 rfl ?_
    show pm_E _ _ _ 9 [(0, .long _), (2, .long _), (4, .long _)] [.long _, .long _] _ _ _ _
    refine pm_e_sim pm_a50_9 rfl ?_
    show pm_E _ _ _ 10 [(0, .long _), (2, .long _), (4, .long _)] [.int _] _ _ _ _
    refine pm_e_ift pm_a50_10 rfl (pm_zl_gt (-1) (by decide +kernel) (by omega) (by decide +kernel)) ?_
    show pm_E _ _ _ 17 [(0, .long _), (2, .long _), (4, .long _)] [] _ _ _ _
    refine pm_e_sim pm_a50_17 rfl ?_
    refine pm_e_top (y := 0) (by decide +kernel) ?_
    show pm_E _ _ _ 18 [(0, .long _), (2, .long _), (4, .long _)] [.int 0] _ _ _ _
    refine pm_e_ret pm_a50_18 rfl rfl rfl rfl rfl rfl rfl rfl ?_
    show pm_E _ _ _ 13 [(0, .ref 18), (1, .int _)] [.int 0] _ _ _ _
    refine pm_e_ret pm_a61_13 rfl rfl rfl rfl rfl rfl rfl rfl ?_
    show pm_E _ _ _ 5 [(0, .ref 18), (1, .int _), (2, .int _)] [.int 0] _ _ _ _
    refine pm_e_ift pm_a62_5 rfl (by decide +kernel) ?_
    show pm_E _ _ _ 41 [(0, .ref 18), (1, .int _), (2, .int _)] [] _ _ _ _
    refine pm_e_sim pm_a62_41 rfl ?_
    refine pm_e_top (y := (-1)) (by decide +kernel) ?_
    show pm_E _ _ _ 42 [(0, .ref 18), (1, .int _), (2, .int _)] [.int (-1)] _ _ _ _
    refine pm_e_ret pm_a62_42 rfl rfl rfl rfl rfl rfl rfl rfl ?_
    show pm_E _ _ _ 303 [(3, .int 0), (2, .ref 18), (1, .ref 0), (0, .retAddr 0)] [.int (-1), .int (-1)] _ _ _ _
    refine pm_e_ict pm_a0_303 rfl (by decide +kernel) ?_
    show pm_E _ _ _ 779 [(3, .int 0), (2, .ref 18), (1, .ref 0), (0, .retAddr 0)] [] _ _ _ _
    refine pm_e_inc (y := 6) pm_a0_779 rfl (by decide +kernel) (by decide +kernel) rfl ?_
    show pm_E _ _ _ 782 [(3, .int 6), (2, .ref 18), (1, .ref 0), (0, .retAddr 0)] [] _ _ _ _
    refine pm_e_goto pm_a0_782 rfl ?_
    show pm_E _ _ _ 18 [(3, .int 6), (2, .ref 18), (1, .ref 0), (0, .retAddr 0)] [] _ _ _ _
    refine pm_e_sim pm_a0_18 rfl ?_
    show pm_E _ _ _ 19 [(3, .int 6), (2, .ref 18), (1, .ref 0), (0, .retAddr 0)] [.int 6] _ _ _ _
    refine pm_e_sim pm_a0_19 rfl ?_
    show pm_E _ _ _ 20 [(3, .int 6), (2, .ref 18), (1, .ref 0), (0, .retAddr 0)] [.retAddr 0, .int 6] _ _ _ _
    refine pm_e_rd pm_a0_20 rfl rfl rfl ?_
    dsimp only
    refine pm_e_top (y := 6) (by decide +kernel) ?_
    show pm_E _ _ _ 21 [(3, .int 6), (2, .ref 18), (1, .ref 0), (0, .retAddr 0)] [.int 6, .int 6] _ _ _ _
    refine pm_e_sim pm_a0_21 rfl ?_
    refine pm_e_top (y := 6) (by decide +kernel) ?_
    show pm_E _ _ _ 23 [(3, .int 6), (2, .ref 18), (1, .ref 0), (0, .retAddr 0)] [.int 6, .int 6, .int 6] _ _ _ _
    refine pm_e_sim pm_a0_23 rfl ?_
    refine pm_e_top (y := 0) (by decide +kernel) ?_
    show pm_E _ _ _ 24 [(3, .int 6), (2, .ref 18), (1, .ref 0), (0, .retAddr 0)] [.int 0, .int 6] _ _ _ _
    refine pm_e_ict pm_a0_24 rfl (by decide +kernel) ?_
    show pm_E _ _ _ 785 [(3, .int 6), (2, .ref 18), (1, .ref 0), (0, .retAddr 0)] [] _ _ _ _
    refine pm_e_sim pm_a0_785 rfl ?_
    refine pm_e_top (y := 1) (by decide +kernel) ?_
    show pm_E _ _ _ 786 [(3, .int 6), (2, .ref 18), (1, .ref 0), (0, .retAddr 0)] [.int 1] _ _ _ _
    refine pm_e_ret pm_a0_786 rfl rfl rfl rfl rfl rfl rfl rfl ?_
    exact hQ _ _ _ (by decide +kernel) (by decide +kernel)
set_option maxHeartbeats 40000000 in
set_option maxRecDepth 200000 in
theorem pm_op6 (xs : Nat → Int32) {Q : Option Value → List va_E → Nat → Nat → Prop} (hQ : ∀ ph c n, c ≤ 600000 → n ≤ 7302250 → Q (some (.int 1)) ph c n) : pm_E (some (6, xs)) 11 pm_mm0 33 pm_L0 [.int (nI 6)] pm_H0 50 194358 Q := by
  refine pm_e_top (y := 6) (by decide +kernel) ?_
  rcases (show (xs 1).toInt < 0 ∨ (xs 1).toInt = 0 ∨ 0 < (xs 1).toInt by omega) with h1 | h1 | h1
  · refine pm_e_tsi (t := 308) pm_a0_33 rfl (by decide +kernel) ?_
    show pm_E _ _ _ 308 [(3, .int 0), (2, .ref 18), (1, .ref 0), (0, .retAddr 0)] [] _ _ _ _
    refine pm_e_sim pm_a0_308 rfl ?_
    show pm_E _ _ _ 309 [(3, .int 0), (2, .ref 18), (1, .ref 0), (0, .retAddr 0)] [.ref 0] _ _ _ _
    refine pm_e_sim pm_a0_309 rfl ?_
    show pm_E _ _ _ 310 [(3, .int 0), (2, .ref 18), (1, .ref 0), (0, .retAddr 0)] [.retAddr 0, .ref 0] _ _ _ _
    refine pm_e_sim pm_a0_310 rfl ?_
    show pm_E _ _ _ 311 [(3, .int 0), (2, .ref 18), (1, .ref 0), (0, .retAddr 0)] [.int 0, .retAddr 0, .ref 0] _ _ _ _
    refine pm_e_sim pm_a0_311 rfl ?_
    refine pm_e_top (y := 1) (by decide +kernel) ?_
    show pm_E _ _ _ 312 [(3, .int 0), (2, .ref 18), (1, .ref 0), (0, .retAddr 0)] [.int 1, .int 0, .retAddr 0, .ref 0] _ _ _ _
    refine pm_e_sim pm_a0_312 rfl ?_
    refine pm_e_top (y := 1) (by decide +kernel) ?_
    show pm_E _ _ _ 313 [(3, .int 0), (2, .ref 18), (1, .ref 0), (0, .retAddr 0)] [.int 1, .retAddr 0, .ref 0] _ _ _ _
    refine pm_e_sld (j := 1) pm_a0_313 (by decide +kernel) ?_
    show pm_E _ _ _ 314 [(3, .int 0), (2, .ref 18), (1, .ref 0), (0, .retAddr 0)] [.int _, .ref 0] _ _ _ _
    refine pm_e_sim pm_a0_314 rfl ?_
    show pm_E _ _ _ 315 [(3, .int 0), (2, .ref 18), (1, .ref 0), (0, .retAddr 0)] [.retAddr 0, .int _, .ref 0] _ _ _ _
    refine pm_e_sim pm_a0_315 rfl ?_
    show pm_E _ _ _ 316 [(3, .int 0), (2, .ref 18), (1, .ref 0), (0, .retAddr 0)] [.int 0, .retAddr 0, .int _, .ref 0] _ _ _ _
    refine pm_e_sim pm_a0_316 rfl ?_
    refine pm_e_top (y := 2) (by decide +kernel) ?_
    show pm_E _ _ _ 317 [(3, .int 0), (2, .ref 18), (1, .ref 0), (0, .retAddr 0)] [.int 2, .int 0, .retAddr 0, .int _, .ref 0] _ _ _ _
    refine pm_e_sim pm_a0_317 rfl ?_
    refine pm_e_top (y := 2) (by decide +kernel) ?_
    show pm_E _ _ _ 318 [(3, .int 0), (2, .ref 18), (1, .ref 0), (0, .retAddr 0)] [.int 2, .retAddr 0, .int _, .ref 0] _ _ _ _
    refine pm_e_sld (j := 2) pm_a0_318 (by decide +kernel) ?_
    show pm_E _ _ _ 319 [(3, .int 0), (2, .ref 18), (1, .ref 0), (0, .retAddr 0)] [.int _, .int _, .ref 0] _ _ _ _
    refine pm_e_call (T2 := pm_mm28) pm_a0_319 rfl rfl rfl rfl rfl rfl rfl rfl rfl ?_
    show pm_E _ _ _ 0 [(0, .ref 0), (1, .int _), (2, .int _)] [] _ _ _ _
    refine pm_e_sim pm_a28_0 rfl ?_
    show pm_E _ _ _ 1 [(0, .ref 0), (1, .int _), (2, .int _)] [.ref 0] _ _ _ _
    refine pm_e_sim pm_a28_1 rfl ?_
    show pm_E _ _ _ 2 [(0, .ref 0), (1, .int _), (2, .int _)] [.int _, .ref 0] _ _ _ _
    refine pm_e_call (T2 := pm_mm26) pm_a28_2 rfl rfl rfl rfl rfl rfl rfl rfl rfl ?_
    show pm_E _ _ _ 0 [(0, .ref 0), (1, .int _)] [] _ _ _ _
    refine pm_e_sim pm_a26_0 rfl ?_
    show pm_E _ _ _ 1 [(0, .ref 0), (1, .int _)] [.int _] _ _ _ _
    refine pm_e_ift pm_a26_1 rfl (pm_z_lt_t 0 (by decide +kernel) (by omega)) ?_
    show pm_E _ _ _ 30 [(0, .ref 0), (1, .int _)] [] _ _ _ _
    refine pm_e_sim pm_a26_30 rfl ?_
    show pm_E _ _ _ 31 [(0, .ref 0), (1, .int _)] [.null] _ _ _ _
    refine pm_e_ret pm_a26_31 rfl rfl rfl rfl rfl rfl rfl rfl ?_
    show pm_E _ _ _ 5 [(0, .ref 0), (1, .int _), (2, .int _)] [.null] _ _ _ _
    refine pm_e_sim pm_a28_5 rfl ?_
    show pm_E _ _ _ 6 [(3, .null), (0, .ref 0), (1, .int _), (2, .int _)] [] _ _ _ _
    refine pm_e_sim pm_a28_6 rfl ?_
    show pm_E _ _ _ 7 [(3, .null), (0, .ref 0), (1, .int _), (2, .int _)] [.null] _ _ _ _
    refine pm_e_jmp (pc2 := 10) pm_a28_7 rfl rfl ?_
    show pm_E _ _ _ 10 [(3, .null), (0, .ref 0), (1, .int _), (2, .int _)] [] _ _ _ _
    refine pm_e_sim pm_a28_10 rfl ?_
    refine pm_e_top (y := (-1)) (by decide +kernel) ?_
    show pm_E _ _ _ 11 [(3, .null), (0, .ref 0), (1, .int _), (2, .int _)] [.int (-1)] _ _ _ _
    refine pm_e_goto pm_a28_11 rfl ?_
    show pm_E _ _ _ 23 [(3, .null), (0, .ref 0), (1, .int _), (2, .int _)] [.int (-1)] _ _ _ _
    refine pm_e_ret pm_a28_23 rfl rfl rfl rfl rfl rfl rfl rfl ?_
    show pm_E _ _ _ 322 [(3, .int 0), (2, .ref 18), (1, .ref 0), (0, .retAddr 0)] [.int (-1)] _ _ _ _
    refine pm_e_sim pm_a0_322 rfl ?_
    show pm_E _ _ _ 323 [(3, .int 0), (2, .ref 18), (1, .ref 0), (0, .retAddr 0)] [.ref 18, .int (-1)] _ _ _ _
    refine pm_e_sim pm_a0_323 rfl ?_
    show pm_E _ _ _ 324 [(3, .int 0), (2, .ref 18), (1, .ref 0), (0, .retAddr 0)] [.retAddr 0, .ref 18, .int (-1)] _ _ _ _
    refine pm_e_sim pm_a0_324 rfl ?_
    show pm_E _ _ _ 325 [(3, .int 0), (2, .ref 18), (1, .ref 0), (0, .retAddr 0)] [.int 0, .retAddr 0, .ref 18, .int (-1)] _ _ _ _
    refine pm_e_sim pm_a0_325 rfl ?_
    refine pm_e_top (y := 1) (by decide +kernel) ?_
    show pm_E _ _ _ 326 [(3, .int 0), (2, .ref 18), (1, .ref 0), (0, .retAddr 0)] [.int 1, .int 0, .retAddr 0, .ref 18, .int (-1)] _ _ _ _
    refine pm_e_sim pm_a0_326 rfl ?_
    refine pm_e_top (y := 1) (by decide +kernel) ?_
    show pm_E _ _ _ 327 [(3, .int 0), (2, .ref 18), (1, .ref 0), (0, .retAddr 0)] [.int 1, .retAddr 0, .ref 18, .int (-1)] _ _ _ _
    refine pm_e_sld (j := 1) pm_a0_327 (by decide +kernel) ?_
    show pm_E _ _ _ 328 [(3, .int 0), (2, .ref 18), (1, .ref 0), (0, .retAddr 0)] [.int _, .ref 18, .int (-1)] _ _ _ _
    refine pm_e_sim pm_a0_328 rfl ?_
    show pm_E _ _ _ 329 [(3, .int 0), (2, .ref 18), (1, .ref 0), (0, .retAddr 0)] [.retAddr 0, .int _, .ref 18, .int (-1)] _ _ _ _
    refine pm_e_sim pm_a0_329 rfl ?_
    show pm_E _ _ _ 330 [(3, .int 0), (2, .ref 18), (1, .ref 0), (0, .retAddr 0)] [.int 0, .retAddr 0, .int _, .ref 18, .int (-1)] _ _ _ _
    refine pm_e_sim pm_a0_330 rfl ?_
    refine pm_e_top (y := 2) (by decide +kernel) ?_
    show pm_E _ _ _ 331 [(3, .int 0), (2, .ref 18), (1, .ref 0), (0, .retAddr 0)] [.int 2, .int 0, .retAddr 0, .int _, .ref 18, .int (-1)] _ _ _ _
    refine pm_e_sim pm_a0_331 rfl ?_
    refine pm_e_top (y := 2) (by decide +kernel) ?_
    show pm_E _ _ _ 332 [(3, .int 0), (2, .ref 18), (1, .ref 0), (0, .retAddr 0)] [.int 2, .retAddr 0, .int _, .ref 18, .int (-1)] _ _ _ _
    refine pm_e_sld (j := 2) pm_a0_332 (by decide +kernel) ?_
    show pm_E _ _ _ 333 [(3, .int 0), (2, .ref 18), (1, .ref 0), (0, .retAddr 0)] [.int _, .int _, .ref 18, .int (-1)] _ _ _ _
    refine pm_e_call (T2 := pm_mm63) pm_a0_333 rfl rfl rfl rfl rfl rfl rfl rfl rfl ?_
    show pm_E _ _ _ 0 [(0, .ref 18), (1, .int _), (2, .int _)] [] _ _ _ _
    refine pm_e_sim pm_a63_0 rfl ?_
    show pm_E _ _ _ 1 [(0, .ref 18), (1, .int _), (2, .int _)] [.ref 18] _ _ _ _
    refine pm_e_sim pm_a63_1 rfl ?_
    show pm_E _ _ _ 2 [(0, .ref 18), (1, .int _), (2, .int _)] [.int _, .ref 18] _ _ _ _
    refine pm_e_call (T2 := pm_mm61) pm_a63_2 rfl rfl rfl rfl rfl rfl rfl rfl rfl ?_
    show pm_E _ _ _ 0 [(0, .ref 18), (1, .int _)] [] _ _ _ _
    refine pm_e_sim pm_a61_0 rfl ?_
    show pm_E _ _ _ 1 [(0, .ref 18), (1, .int _)] [.int _] _ _ _ _
    refine pm_e_sim pm_a61_1 rfl ?_
    show pm_E _ _ _ 2 [(0, .ref 18), (1, .int _)] [.long _] _ _ _ _
    refine pm_e_sim pm_a61_2 rfl ?_
    show pm_E _ _ _ 3 [(0, .ref 18), (1, .int _)] [.long _, .long _] _ _ _ _
    refine pm_e_sim pm_a61_3 rfl ?_
    show pm_E _ _ _ 4 [(0, .ref 18), (1, .int _)] [.ref 18, .long _, .long _] _ _ _ _
    refine pm_e_rd pm_a61_4 rfl rfl rfl ?_
    show pm_E _ _ _ 7 [(0, .ref 18), (1, .int _)] [.int 0, .long _, .long _] _ _ _ _
    refine pm_e_sim pm_a61_7 rfl ?_
    refine pm_e_top (y := 1) (by decide +kernel) ?_
    show pm_E _ _ _ 8 [(0, .ref 18), (1, .int _)] [.int 1, .int 0, .long _, .long _] _ _ _ _
    refine pm_e_sim pm_a61_8 rfl ?_
    refine pm_e_top (y := (-1)) (by decide +kernel) ?_
    show pm_E _ _ _ 9 [(0, .ref 18), (1, .int _)] [.int (-1), .long _, .long _] _ _ _ _
    refine pm_e_sim pm_a61_9 rfl ?_
    show pm_E _ _ _ 10 [(0, .ref 18), (1, .int _)] [.long _, .long _, .long _] _ _ _ _
    refine pm_e_call (T2 := pm_mm50) pm_a61_10 rfl rfl rfl rfl rfl rfl rfl rfl rfl ?_
    show pm_E _ _ _ 0 [(0, .long _), (2, .long _), (4, .long _)] [] _ _ _ _
    refine pm_e_sim pm_a50_0 rfl ?_
    show pm_E _ _ _ 1 [(0, .long _), (2, .long _), (4, .long _)] [.long _] _ _ _ _
    refine pm_e_sim pm_a50_1 rfl ?_
    show pm_E _ _ _ 2 [(0, .long _), (2, .long _), (4, .long _)] [.long _, .long _] _ _ _ _
    refine pm_e_sim pm_a50_2 rfl ?_
    show pm_E _ _ _ 3 [(0, .long _), (2, .long _), (4, .long _)] [.int _] _ _ _ _
    refine pm_e_ift pm_a50_3 rfl (pm_zl_lt 0 (by decide +kernel) (by omega) (by decide +kernel)) ?_
    show pm_E _ _ _ 17 [(0, .long _), (2, .long _), (4, .long _)] [] _ _ _ _
    refine pm_e_sim pm_a50_17 rfl ?_
    refine pm_e_top (y := 0) (by decide +kernel) ?_
    show pm_E _ _ _ 18 [(0, .long _), (2, .long _), (4, .long _)] [.int 0] _ _ _ _
    refine pm_e_ret pm_a50_18 rfl rfl rfl rfl rfl rfl rfl rfl ?_
    show pm_E _ _ _ 13 [(0, .ref 18), (1, .int _)] [.int 0] _ _ _ _
    refine pm_e_ret pm_a61_13 rfl rfl rfl rfl rfl rfl rfl rfl ?_
    show pm_E _ _ _ 5 [(0, .ref 18), (1, .int _), (2, .int _)] [.int 0] _ _ _ _
    refine pm_e_iff pm_a63_5 rfl (by decide +kernel) ?_
    show pm_E _ _ _ 8 [(0, .ref 18), (1, .int _), (2, .int _)] [] _ _ _ _
    refine pm_e_sim pm_a63_8 rfl ?_
    refine pm_e_top (y := (-1)) (by decide +kernel) ?_
    show pm_E _ _ _ 9 [(0, .ref 18), (1, .int _), (2, .int _)] [.int (-1)] _ _ _ _
    refine pm_e_ret pm_a63_9 rfl rfl rfl rfl rfl rfl rfl rfl ?_
    show pm_E _ _ _ 336 [(3, .int 0), (2, .ref 18), (1, .ref 0), (0, .retAddr 0)] [.int (-1), .int (-1)] _ _ _ _
    refine pm_e_ict pm_a0_336 rfl (by decide +kernel) ?_
    show pm_E _ _ _ 779 [(3, .int 0), (2, .ref 18), (1, .ref 0), (0, .retAddr 0)] [] _ _ _ _
    refine pm_e_inc (y := 6) pm_a0_779 rfl (by decide +kernel) (by decide +kernel) rfl ?_
    show pm_E _ _ _ 782 [(3, .int 6), (2, .ref 18), (1, .ref 0), (0, .retAddr 0)] [] _ _ _ _
    refine pm_e_goto pm_a0_782 rfl ?_
    show pm_E _ _ _ 18 [(3, .int 6), (2, .ref 18), (1, .ref 0), (0, .retAddr 0)] [] _ _ _ _
    refine pm_e_sim pm_a0_18 rfl ?_
    show pm_E _ _ _ 19 [(3, .int 6), (2, .ref 18), (1, .ref 0), (0, .retAddr 0)] [.int 6] _ _ _ _
    refine pm_e_sim pm_a0_19 rfl ?_
    show pm_E _ _ _ 20 [(3, .int 6), (2, .ref 18), (1, .ref 0), (0, .retAddr 0)] [.retAddr 0, .int 6] _ _ _ _
    refine pm_e_rd pm_a0_20 rfl rfl rfl ?_
    dsimp only
    refine pm_e_top (y := 6) (by decide +kernel) ?_
    show pm_E _ _ _ 21 [(3, .int 6), (2, .ref 18), (1, .ref 0), (0, .retAddr 0)] [.int 6, .int 6] _ _ _ _
    refine pm_e_sim pm_a0_21 rfl ?_
    refine pm_e_top (y := 6) (by decide +kernel) ?_
    show pm_E _ _ _ 23 [(3, .int 6), (2, .ref 18), (1, .ref 0), (0, .retAddr 0)] [.int 6, .int 6, .int 6] _ _ _ _
    refine pm_e_sim pm_a0_23 rfl ?_
    refine pm_e_top (y := 0) (by decide +kernel) ?_
    show pm_E _ _ _ 24 [(3, .int 6), (2, .ref 18), (1, .ref 0), (0, .retAddr 0)] [.int 0, .int 6] _ _ _ _
    refine pm_e_ict pm_a0_24 rfl (by decide +kernel) ?_
    show pm_E _ _ _ 785 [(3, .int 6), (2, .ref 18), (1, .ref 0), (0, .retAddr 0)] [] _ _ _ _
    refine pm_e_sim pm_a0_785 rfl ?_
    refine pm_e_top (y := 1) (by decide +kernel) ?_
    show pm_E _ _ _ 786 [(3, .int 6), (2, .ref 18), (1, .ref 0), (0, .retAddr 0)] [.int 1] _ _ _ _
    refine pm_e_ret pm_a0_786 rfl rfl rfl rfl rfl rfl rfl rfl ?_
    exact hQ _ _ _ (by decide +kernel) (by decide +kernel)
  · refine pm_e_tsi (t := 308) pm_a0_33 rfl (by decide +kernel) ?_
    show pm_E _ _ _ 308 [(3, .int 0), (2, .ref 18), (1, .ref 0), (0, .retAddr 0)] [] _ _ _ _
    refine pm_e_sim pm_a0_308 rfl ?_
    show pm_E _ _ _ 309 [(3, .int 0), (2, .ref 18), (1, .ref 0), (0, .retAddr 0)] [.ref 0] _ _ _ _
    refine pm_e_sim pm_a0_309 rfl ?_
    show pm_E _ _ _ 310 [(3, .int 0), (2, .ref 18), (1, .ref 0), (0, .retAddr 0)] [.retAddr 0, .ref 0] _ _ _ _
    refine pm_e_sim pm_a0_310 rfl ?_
    show pm_E _ _ _ 311 [(3, .int 0), (2, .ref 18), (1, .ref 0), (0, .retAddr 0)] [.int 0, .retAddr 0, .ref 0] _ _ _ _
    refine pm_e_sim pm_a0_311 rfl ?_
    refine pm_e_top (y := 1) (by decide +kernel) ?_
    show pm_E _ _ _ 312 [(3, .int 0), (2, .ref 18), (1, .ref 0), (0, .retAddr 0)] [.int 1, .int 0, .retAddr 0, .ref 0] _ _ _ _
    refine pm_e_sim pm_a0_312 rfl ?_
    refine pm_e_top (y := 1) (by decide +kernel) ?_
    show pm_E _ _ _ 313 [(3, .int 0), (2, .ref 18), (1, .ref 0), (0, .retAddr 0)] [.int 1, .retAddr 0, .ref 0] _ _ _ _
    refine pm_e_sld (j := 1) pm_a0_313 (by decide +kernel) ?_
    show pm_E _ _ _ 314 [(3, .int 0), (2, .ref 18), (1, .ref 0), (0, .retAddr 0)] [.int _, .ref 0] _ _ _ _
    refine pm_e_sim pm_a0_314 rfl ?_
    show pm_E _ _ _ 315 [(3, .int 0), (2, .ref 18), (1, .ref 0), (0, .retAddr 0)] [.retAddr 0, .int _, .ref 0] _ _ _ _
    refine pm_e_sim pm_a0_315 rfl ?_
    show pm_E _ _ _ 316 [(3, .int 0), (2, .ref 18), (1, .ref 0), (0, .retAddr 0)] [.int 0, .retAddr 0, .int _, .ref 0] _ _ _ _
    refine pm_e_sim pm_a0_316 rfl ?_
    refine pm_e_top (y := 2) (by decide +kernel) ?_
    show pm_E _ _ _ 317 [(3, .int 0), (2, .ref 18), (1, .ref 0), (0, .retAddr 0)] [.int 2, .int 0, .retAddr 0, .int _, .ref 0] _ _ _ _
    refine pm_e_sim pm_a0_317 rfl ?_
    refine pm_e_top (y := 2) (by decide +kernel) ?_
    show pm_E _ _ _ 318 [(3, .int 0), (2, .ref 18), (1, .ref 0), (0, .retAddr 0)] [.int 2, .retAddr 0, .int _, .ref 0] _ _ _ _
    refine pm_e_sld (j := 2) pm_a0_318 (by decide +kernel) ?_
    show pm_E _ _ _ 319 [(3, .int 0), (2, .ref 18), (1, .ref 0), (0, .retAddr 0)] [.int _, .int _, .ref 0] _ _ _ _
    refine pm_e_call (T2 := pm_mm28) pm_a0_319 rfl rfl rfl rfl rfl rfl rfl rfl rfl ?_
    show pm_E _ _ _ 0 [(0, .ref 0), (1, .int _), (2, .int _)] [] _ _ _ _
    refine pm_e_sim pm_a28_0 rfl ?_
    show pm_E _ _ _ 1 [(0, .ref 0), (1, .int _), (2, .int _)] [.ref 0] _ _ _ _
    refine pm_e_sim pm_a28_1 rfl ?_
    show pm_E _ _ _ 2 [(0, .ref 0), (1, .int _), (2, .int _)] [.int _, .ref 0] _ _ _ _
    refine pm_e_call (T2 := pm_mm26) pm_a28_2 rfl rfl rfl rfl rfl rfl rfl rfl rfl ?_
    show pm_E _ _ _ 0 [(0, .ref 0), (1, .int _)] [] _ _ _ _
    refine pm_e_sim pm_a26_0 rfl ?_
    show pm_E _ _ _ 1 [(0, .ref 0), (1, .int _)] [.int _] _ _ _ _
    refine pm_e_iff pm_a26_1 rfl (pm_z_lt_f 0 (by decide +kernel) (by omega)) ?_
    show pm_E _ _ _ 4 [(0, .ref 0), (1, .int _)] [] _ _ _ _
    refine pm_e_sim pm_a26_4 rfl ?_
    show pm_E _ _ _ 5 [(0, .ref 0), (1, .int _)] [.int _] _ _ _ _
    refine pm_e_sim pm_a26_5 rfl ?_
    show pm_E _ _ _ 6 [(0, .ref 0), (1, .int _)] [.ref 0, .int _] _ _ _ _
    refine pm_e_rd pm_a26_6 rfl rfl rfl ?_
    show pm_E _ _ _ 9 [(0, .ref 0), (1, .int _)] [.int 0, .int _] _ _ _ _
    refine pm_e_ict pm_a26_9 rfl (pm_z_ge_t 0 (by decide +kernel) (by omega)) ?_
    show pm_E _ _ _ 30 [(0, .ref 0), (1, .int _)] [] _ _ _ _
    refine pm_e_sim pm_a26_30 rfl ?_
    show pm_E _ _ _ 31 [(0, .ref 0), (1, .int _)] [.null] _ _ _ _
    refine pm_e_ret pm_a26_31 rfl rfl rfl rfl rfl rfl rfl rfl ?_
    show pm_E _ _ _ 5 [(0, .ref 0), (1, .int _), (2, .int _)] [.null] _ _ _ _
    refine pm_e_sim pm_a28_5 rfl ?_
    show pm_E _ _ _ 6 [(3, .null), (0, .ref 0), (1, .int _), (2, .int _)] [] _ _ _ _
    refine pm_e_sim pm_a28_6 rfl ?_
    show pm_E _ _ _ 7 [(3, .null), (0, .ref 0), (1, .int _), (2, .int _)] [.null] _ _ _ _
    refine pm_e_jmp (pc2 := 10) pm_a28_7 rfl rfl ?_
    show pm_E _ _ _ 10 [(3, .null), (0, .ref 0), (1, .int _), (2, .int _)] [] _ _ _ _
    refine pm_e_sim pm_a28_10 rfl ?_
    refine pm_e_top (y := (-1)) (by decide +kernel) ?_
    show pm_E _ _ _ 11 [(3, .null), (0, .ref 0), (1, .int _), (2, .int _)] [.int (-1)] _ _ _ _
    refine pm_e_goto pm_a28_11 rfl ?_
    show pm_E _ _ _ 23 [(3, .null), (0, .ref 0), (1, .int _), (2, .int _)] [.int (-1)] _ _ _ _
    refine pm_e_ret pm_a28_23 rfl rfl rfl rfl rfl rfl rfl rfl ?_
    show pm_E _ _ _ 322 [(3, .int 0), (2, .ref 18), (1, .ref 0), (0, .retAddr 0)] [.int (-1)] _ _ _ _
    refine pm_e_sim pm_a0_322 rfl ?_
    show pm_E _ _ _ 323 [(3, .int 0), (2, .ref 18), (1, .ref 0), (0, .retAddr 0)] [.ref 18, .int (-1)] _ _ _ _
    refine pm_e_sim pm_a0_323 rfl ?_
    show pm_E _ _ _ 324 [(3, .int 0), (2, .ref 18), (1, .ref 0), (0, .retAddr 0)] [.retAddr 0, .ref 18, .int (-1)] _ _ _ _
    refine pm_e_sim pm_a0_324 rfl ?_
    show pm_E _ _ _ 325 [(3, .int 0), (2, .ref 18), (1, .ref 0), (0, .retAddr 0)] [.int 0, .retAddr 0, .ref 18, .int (-1)] _ _ _ _
    refine pm_e_sim pm_a0_325 rfl ?_
    refine pm_e_top (y := 1) (by decide +kernel) ?_
    show pm_E _ _ _ 326 [(3, .int 0), (2, .ref 18), (1, .ref 0), (0, .retAddr 0)] [.int 1, .int 0, .retAddr 0, .ref 18, .int (-1)] _ _ _ _
    refine pm_e_sim pm_a0_326 rfl ?_
    refine pm_e_top (y := 1) (by decide +kernel) ?_
    show pm_E _ _ _ 327 [(3, .int 0), (2, .ref 18), (1, .ref 0), (0, .retAddr 0)] [.int 1, .retAddr 0, .ref 18, .int (-1)] _ _ _ _
    refine pm_e_sld (j := 1) pm_a0_327 (by decide +kernel) ?_
    show pm_E _ _ _ 328 [(3, .int 0), (2, .ref 18), (1, .ref 0), (0, .retAddr 0)] [.int _, .ref 18, .int (-1)] _ _ _ _
    refine pm_e_sim pm_a0_328 rfl ?_
    show pm_E _ _ _ 329 [(3, .int 0), (2, .ref 18), (1, .ref 0), (0, .retAddr 0)] [.retAddr 0, .int _, .ref 18, .int (-1)] _ _ _ _
    refine pm_e_sim pm_a0_329 rfl ?_
    show pm_E _ _ _ 330 [(3, .int 0), (2, .ref 18), (1, .ref 0), (0, .retAddr 0)] [.int 0, .retAddr 0, .int _, .ref 18, .int (-1)] _ _ _ _
    refine pm_e_sim pm_a0_330 rfl ?_
    refine pm_e_top (y := 2) (by decide +kernel) ?_
    show pm_E _ _ _ 331 [(3, .int 0), (2, .ref 18), (1, .ref 0), (0, .retAddr 0)] [.int 2, .int 0, .retAddr 0, .int _, .ref 18, .int (-1)] _ _ _ _
    refine pm_e_sim pm_a0_331 rfl ?_
    refine pm_e_top (y := 2) (by decide +kernel) ?_
    show pm_E _ _ _ 332 [(3, .int 0), (2, .ref 18), (1, .ref 0), (0, .retAddr 0)] [.int 2, .retAddr 0, .int _, .ref 18, .int (-1)] _ _ _ _
    refine pm_e_sld (j := 2) pm_a0_332 (by decide +kernel) ?_
    show pm_E _ _ _ 333 [(3, .int 0), (2, .ref 18), (1, .ref 0), (0, .retAddr 0)] [.int _, .int _, .ref 18, .int (-1)] _ _ _ _
    refine pm_e_call (T2 := pm_mm63) pm_a0_333 rfl rfl rfl rfl rfl rfl rfl rfl rfl ?_
    show pm_E _ _ _ 0 [(0, .ref 18), (1, .int _), (2, .int _)] [] _ _ _ _
    refine pm_e_sim pm_a63_0 rfl ?_
    show pm_E _ _ _ 1 [(0, .ref 18), (1, .int _), (2, .int _)] [.ref 18] _ _ _ _
    refine pm_e_sim pm_a63_1 rfl ?_
    show pm_E _ _ _ 2 [(0, .ref 18), (1, .int _), (2, .int _)] [.int _, .ref 18] _ _ _ _
    refine pm_e_call (T2 := pm_mm61) pm_a63_2 rfl rfl rfl rfl rfl rfl rfl rfl rfl ?_
    show pm_E _ _ _ 0 [(0, .ref 18), (1, .int _)] [] _ _ _ _
    refine pm_e_sim pm_a61_0 rfl ?_
    show pm_E _ _ _ 1 [(0, .ref 18), (1, .int _)] [.int _] _ _ _ _
    refine pm_e_sim pm_a61_1 rfl ?_
    show pm_E _ _ _ 2 [(0, .ref 18), (1, .int _)] [.long _] _ _ _ _
    refine pm_e_sim pm_a61_2 rfl ?_
    show pm_E _ _ _ 3 [(0, .ref 18), (1, .int _)] [.long _, .long _] _ _ _ _
    refine pm_e_sim pm_a61_3 rfl ?_
    show pm_E _ _ _ 4 [(0, .ref 18), (1, .int _)] [.ref 18, .long _, .long _] _ _ _ _
    refine pm_e_rd pm_a61_4 rfl rfl rfl ?_
    show pm_E _ _ _ 7 [(0, .ref 18), (1, .int _)] [.int 0, .long _, .long _] _ _ _ _
    refine pm_e_sim pm_a61_7 rfl ?_
    refine pm_e_top (y := 1) (by decide +kernel) ?_
    show pm_E _ _ _ 8 [(0, .ref 18), (1, .int _)] [.int 1, .int 0, .long _, .long _] _ _ _ _
    refine pm_e_sim pm_a61_8 rfl ?_
    refine pm_e_top (y := (-1)) (by decide +kernel) ?_
    show pm_E _ _ _ 9 [(0, .ref 18), (1, .int _)] [.int (-1), .long _, .long _] _ _ _ _
    refine pm_e_sim pm_a61_9 rfl ?_
    show pm_E _ _ _ 10 [(0, .ref 18), (1, .int _)] [.long _, .long _, .long _] _ _ _ _
    refine pm_e_call (T2 := pm_mm50) pm_a61_10 rfl rfl rfl rfl rfl rfl rfl rfl rfl ?_
    show pm_E _ _ _ 0 [(0, .long _), (2, .long _), (4, .long _)] [] _ _ _ _
    refine pm_e_sim pm_a50_0 rfl ?_
    show pm_E _ _ _ 1 [(0, .long _), (2, .long _), (4, .long _)] [.long _] _ _ _ _
    refine pm_e_sim pm_a50_1 rfl ?_
    show pm_E _ _ _ 2 [(0, .long _), (2, .long _), (4, .long _)] [.long _, .long _] _ _ _ _
    refine pm_e_sim pm_a50_2 rfl ?_
    show pm_E _ _ _ 3 [(0, .long _), (2, .long _), (4, .long _)] [.int _] _ _ _ _
    refine pm_e_iff pm_a50_3 rfl (pm_zl_eq 0 (by decide +kernel) (by omega) (by decide +kernel)) ?_
    show pm_E _ _ _ 6 [(0, .long _), (2, .long _), (4, .long _)] [] _ _ _ _
    refine pm_e_sim pm_a50_6 rfl ?_
    show pm_E _ _ _ 7 [(0, .long _), (2, .long _), (4, .long _)] [.long _] _ _ _ _
    refine pm_e_sim pm_a50_7 rfl ?_
    show pm_E _ _ _ 9 [(0, .long _), (2, .long _), (4, .long _)] [.long _, .long _] _ _ _ _
    refine pm_e_sim pm_a50_9 rfl ?_
    show pm_E _ _ _ 10 [(0, .long _), (2, .long _), (4, .long _)] [.int _] _ _ _ _
    refine pm_e_ift pm_a50_10 rfl (pm_zl_gt (-1) (by decide +kernel) (by omega) (by decide +kernel)) ?_
    show pm_E _ _ _ 17 [(0, .long _), (2, .long _), (4, .long _)] [] _ _ _ _
    refine pm_e_sim pm_a50_17 rfl ?_
    refine pm_e_top (y := 0) (by decide +kernel) ?_
    show pm_E _ _ _ 18 [(0, .long _), (2, .long _), (4, .long _)] [.int 0] _ _ _ _
    refine pm_e_ret pm_a50_18 rfl rfl rfl rfl rfl rfl rfl rfl ?_
    show pm_E _ _ _ 13 [(0, .ref 18), (1, .int _)] [.int 0] _ _ _ _
    refine pm_e_ret pm_a61_13 rfl rfl rfl rfl rfl rfl rfl rfl ?_
    show pm_E _ _ _ 5 [(0, .ref 18), (1, .int _), (2, .int _)] [.int 0] _ _ _ _
    refine pm_e_iff pm_a63_5 rfl (by decide +kernel) ?_
    show pm_E _ _ _ 8 [(0, .ref 18), (1, .int _), (2, .int _)] [] _ _ _ _
    refine pm_e_sim pm_a63_8 rfl ?_
    refine pm_e_top (y := (-1)) (by decide +kernel) ?_
    show pm_E _ _ _ 9 [(0, .ref 18), (1, .int _), (2, .int _)] [.int (-1)] _ _ _ _
    refine pm_e_ret pm_a63_9 rfl rfl rfl rfl rfl rfl rfl rfl ?_
    show pm_E _ _ _ 336 [(3, .int 0), (2, .ref 18), (1, .ref 0), (0, .retAddr 0)] [.int (-1), .int (-1)] _ _ _ _
    refine pm_e_ict pm_a0_336 rfl (by decide +kernel) ?_
    show pm_E _ _ _ 779 [(3, .int 0), (2, .ref 18), (1, .ref 0), (0, .retAddr 0)] [] _ _ _ _
    refine pm_e_inc (y := 6) pm_a0_779 rfl (by decide +kernel) (by decide +kernel) rfl ?_
    show pm_E _ _ _ 782 [(3, .int 6), (2, .ref 18), (1, .ref 0), (0, .retAddr 0)] [] _ _ _ _
    refine pm_e_goto pm_a0_782 rfl ?_
    show pm_E _ _ _ 18 [(3, .int 6), (2, .ref 18), (1, .ref 0), (0, .retAddr 0)] [] _ _ _ _
    refine pm_e_sim pm_a0_18 rfl ?_
    show pm_E _ _ _ 19 [(3, .int 6), (2, .ref 18), (1, .ref 0), (0, .retAddr 0)] [.int 6] _ _ _ _
    refine pm_e_sim pm_a0_19 rfl ?_
    show pm_E _ _ _ 20 [(3, .int 6), (2, .ref 18), (1, .ref 0), (0, .retAddr 0)] [.retAddr 0, .int 6] _ _ _ _
    refine pm_e_rd pm_a0_20 rfl rfl rfl ?_
    dsimp only
    refine pm_e_top (y := 6) (by decide +kernel) ?_
    show pm_E _ _ _ 21 [(3, .int 6), (2, .ref 18), (1, .ref 0), (0, .retAddr 0)] [.int 6, .int 6] _ _ _ _
    refine pm_e_sim pm_a0_21 rfl ?_
    refine pm_e_top (y := 6) (by decide +kernel) ?_
    show pm_E _ _ _ 23 [(3, .int 6), (2, .ref 18), (1, .ref 0), (0, .retAddr 0)] [.int 6, .int 6, .int 6] _ _ _ _
    refine pm_e_sim pm_a0_23 rfl ?_
    refine pm_e_top (y := 0) (by decide +kernel) ?_
    show pm_E _ _ _ 24 [(3, .int 6), (2, .ref 18), (1, .ref 0), (0, .retAddr 0)] [.int 0, .int 6] _ _ _ _
    refine pm_e_ict pm_a0_24 rfl (by decide +kernel) ?_
    show pm_E _ _ _ 785 [(3, .int 6), (2, .ref 18), (1, .ref 0), (0, .retAddr 0)] [] _ _ _ _
    refine pm_e_sim pm_a0_785 rfl ?_
    refine pm_e_top (y := 1) (by decide +kernel) ?_
    show pm_E _ _ _ 786 [(3, .int 6), (2, .ref 18), (1, .ref 0), (0, .retAddr 0)] [.int 1] _ _ _ _
    refine pm_e_ret pm_a0_786 rfl rfl rfl rfl rfl rfl rfl rfl ?_
    exact hQ _ _ _ (by decide +kernel) (by decide +kernel)
  · refine pm_e_tsi (t := 308) pm_a0_33 rfl (by decide +kernel) ?_
    show pm_E _ _ _ 308 [(3, .int 0), (2, .ref 18), (1, .ref 0), (0, .retAddr 0)] [] _ _ _ _
    refine pm_e_sim pm_a0_308 rfl ?_
    show pm_E _ _ _ 309 [(3, .int 0), (2, .ref 18), (1, .ref 0), (0, .retAddr 0)] [.ref 0] _ _ _ _
    refine pm_e_sim pm_a0_309 rfl ?_
    show pm_E _ _ _ 310 [(3, .int 0), (2, .ref 18), (1, .ref 0), (0, .retAddr 0)] [.retAddr 0, .ref 0] _ _ _ _
    refine pm_e_sim pm_a0_310 rfl ?_
    show pm_E _ _ _ 311 [(3, .int 0), (2, .ref 18), (1, .ref 0), (0, .retAddr 0)] [.int 0, .retAddr 0, .ref 0] _ _ _ _
    refine pm_e_sim pm_a0_311 rfl ?_
    refine pm_e_top (y := 1) (by decide +kernel) ?_
    show pm_E _ _ _ 312 [(3, .int 0), (2, .ref 18), (1, .ref 0), (0, .retAddr 0)] [.int 1, .int 0, .retAddr 0, .ref 0] _ _ _ _
    refine pm_e_sim pm_a0_312 rfl ?_
    refine pm_e_top (y := 1) (by decide +kernel) ?_
    show pm_E _ _ _ 313 [(3, .int 0), (2, .ref 18), (1, .ref 0), (0, .retAddr 0)] [.int 1, .retAddr 0, .ref 0] _ _ _ _
    refine pm_e_sld (j := 1) pm_a0_313 (by decide +kernel) ?_
    show pm_E _ _ _ 314 [(3, .int 0), (2, .ref 18), (1, .ref 0), (0, .retAddr 0)] [.int _, .ref 0] _ _ _ _
    refine pm_e_sim pm_a0_314 rfl ?_
    show pm_E _ _ _ 315 [(3, .int 0), (2, .ref 18), (1, .ref 0), (0, .retAddr 0)] [.retAddr 0, .int _, .ref 0] _ _ _ _
    refine pm_e_sim pm_a0_315 rfl ?_
    show pm_E _ _ _ 316 [(3, .int 0), (2, .ref 18), (1, .ref 0), (0, .retAddr 0)] [.int 0, .retAddr 0, .int _, .ref 0] _ _ _ _
    refine pm_e_sim pm_a0_316 rfl ?_
    refine pm_e_top (y := 2) (by decide +kernel) ?_
    show pm_E _ _ _ 317 [(3, .int 0), (2, .ref 18), (1, .ref 0), (0, .retAddr 0)] [.int 2, .int 0, .retAddr 0, .int _, .ref 0] _ _ _ _
    refine pm_e_sim pm_a0_317 rfl ?_
    refine pm_e_top (y := 2) (by decide +kernel) ?_
    show pm_E _ _ _ 318 [(3, .int 0), (2, .ref 18), (1, .ref 0), (0, .retAddr 0)] [.int 2, .retAddr 0, .int _, .ref 0] _ _ _ _
    refine pm_e_sld (j := 2) pm_a0_318 (by decide +kernel) ?_
    show pm_E _ _ _ 319 [(3, .int 0), (2, .ref 18), (1, .ref 0), (0, .retAddr 0)] [.int _, .int _, .ref 0] _ _ _ _
    refine pm_e_call (T2 := pm_mm28) pm_a0_319 rfl rfl rfl rfl rfl rfl rfl rfl rfl ?_
    show pm_E _ _ _ 0 [(0, .ref 0), (1, .int _), (2, .int _)] [] _ _ _ _
    refine pm_e_sim pm_a28_0 rfl ?_
    show pm_E _ _ _ 1 [(0, .ref 0), (1, .int _), (2, .int _)] [.ref 0] _ _ _ _
    refine pm_e_sim pm_a28_1 rfl ?_
    show pm_E _ _ _ 2 [(0, .ref 0), (1, .int _), (2, .int _)] [.int _, .ref 0] _ _ _ _
    refine pm_e_call (T2 := pm_mm26) pm_a28_2 rfl rfl rfl rfl rfl rfl rfl rfl rfl ?_
    show pm_E _ _ _ 0 [(0, .ref 0), (1, .int _)] [] _ _ _ _
    refine pm_e_sim pm_a26_0 rfl ?_
    show pm_E _ _ _ 1 [(0, .ref 0), (1, .int _)] [.int _] _ _ _ _
    refine pm_e_iff pm_a26_1 rfl (pm_z_lt_f 0 (by decide +kernel) (by omega)) ?_
    show pm_E _ _ _ 4 [(0, .ref 0), (1, .int _)] [] _ _ _ _
    refine pm_e_sim pm_a26_4 rfl ?_
    show pm_E _ _ _ 5 [(0, .ref 0), (1, .int _)] [.int _] _ _ _ _
    refine pm_e_sim pm_a26_5 rfl ?_
    show pm_E _ _ _ 6 [(0, .ref 0), (1, .int _)] [.ref 0, .int _] _ _ _ _
    refine pm_e_rd pm_a26_6 rfl rfl rfl ?_
    show pm_E _ _ _ 9 [(0, .ref 0), (1, .int _)] [.int 0, .int _] _ _ _ _
    refine pm_e_ict pm_a26_9 rfl (pm_z_ge_t 0 (by decide +kernel) (by omega)) ?_
    show pm_E _ _ _ 30 [(0, .ref 0), (1, .int _)] [] _ _ _ _
    refine pm_e_sim pm_a26_30 rfl ?_
    show pm_E _ _ _ 31 [(0, .ref 0), (1, .int _)] [.null] _ _ _ _
    refine pm_e_ret pm_a26_31 rfl rfl rfl rfl rfl rfl rfl rfl ?_
    show pm_E _ _ _ 5 [(0, .ref 0), (1, .int _), (2, .int _)] [.null] _ _ _ _
    refine pm_e_sim pm_a28_5 rfl ?_
    show pm_E _ _ _ 6 [(3, .null), (0, .ref 0), (1, .int _), (2, .int _)] [] _ _ _ _
    refine pm_e_sim pm_a28_6 rfl ?_
    show pm_E _ _ _ 7 [(3, .null), (0, .ref 0), (1, .int _), (2, .int _)] [.null] _ _ _ _
    refine pm_e_jmp (pc2 := 10) pm_a28_7 rfl rfl ?_
    show pm_E _ _ _ 10 [(3, .null), (0, .ref 0), (1, .int _), (2, .int _)] [] _ _ _ _
    refine pm_e_sim pm_a28_10 rfl ?_
    refine pm_e_top (y := (-1)) (by decide +kernel) ?_
    show pm_E _ _ _ 11 [(3, .null), (0, .ref 0), (1, .int _), (2, .int _)] [.int (-1)] _ _ _ _
    refine pm_e_goto pm_a28_11 rfl ?_
    show pm_E _ _ _ 23 [(3, .null), (0, .ref 0), (1, .int _), (2, .int _)] [.int (-1)] _ _ _ _
    refine pm_e_ret pm_a28_23 rfl rfl rfl rfl rfl rfl rfl rfl ?_
    show pm_E _ _ _ 322 [(3, .int 0), (2, .ref 18), (1, .ref 0), (0, .retAddr 0)] [.int (-1)] _ _ _ _
    refine pm_e_sim pm_a0_322 rfl ?_
    show pm_E _ _ _ 323 [(3, .int 0), (2, .ref 18), (1, .ref 0), (0, .retAddr 0)] [.ref 18, .int (-1)] _ _ _ _
    refine pm_e_sim pm_a0_323 rfl ?_
    show pm_E _ _ _ 324 [(3, .int 0), (2, .ref 18), (1, .ref 0), (0, .retAddr 0)] [.retAddr 0, .ref 18, .int (-1)] _ _ _ _
    refine pm_e_sim pm_a0_324 rfl ?_
    show pm_E _ _ _ 325 [(3, .int 0), (2, .ref 18), (1, .ref 0), (0, .retAddr 0)] [.int 0, .retAddr 0, .ref 18, .int (-1)] _ _ _ _
    refine pm_e_sim pm_a0_325 rfl ?_
    refine pm_e_top (y := 1) (by decide +kernel) ?_
    show pm_E _ _ _ 326 [(3, .int 0), (2, .ref 18), (1, .ref 0), (0, .retAddr 0)] [.int 1, .int 0, .retAddr 0, .ref 18, .int (-1)] _ _ _ _
    refine pm_e_sim pm_a0_326 rfl ?_
    refine pm_e_top (y := 1) (by decide +kernel) ?_
    show pm_E _ _ _ 327 [(3, .int 0), (2, .ref 18), (1, .ref 0), (0, .retAddr 0)] [.int 1, .retAddr 0, .ref 18, .int (-1)] _ _ _ _
    refine pm_e_sld (j := 1) pm_a0_327 (by decide +kernel) ?_
    show pm_E _ _ _ 328 [(3, .int 0), (2, .ref 18), (1, .ref 0), (0, .retAddr 0)] [.int _, .ref 18, .int (-1)] _ _ _ _
    refine pm_e_sim pm_a0_328 rfl ?_
    show pm_E _ _ _ 329 [(3, .int 0), (2, .ref 18), (1, .ref 0), (0, .retAddr 0)] [.retAddr 0, .int _, .ref 18, .int (-1)] _ _ _ _
    refine pm_e_sim pm_a0_329 rfl ?_
    show pm_E _ _ _ 330 [(3, .int 0), (2, .ref 18), (1, .ref 0), (0, .retAddr 0)] [.int 0, .retAddr 0, .int _, .ref 18, .int (-1)] _ _ _ _
    refine pm_e_sim pm_a0_330 rfl ?_
    refine pm_e_top (y := 2) (by decide +kernel) ?_
    show pm_E _ _ _ 331 [(3, .int 0), (2, .ref 18), (1, .ref 0), (0, .retAddr 0)] [.int 2, .int 0, .retAddr 0, .int _, .ref 18, .int (-1)] _ _ _ _
    refine pm_e_sim pm_a0_331 rfl ?_
    refine pm_e_top (y := 2) (by decide +kernel) ?_
    show pm_E _ _ _ 332 [(3, .int 0), (2, .ref 18), (1, .ref 0), (0, .retAddr 0)] [.int 2, .retAddr 0, .int _, .ref 18, .int (-1)] _ _ _ _
    refine pm_e_sld (j := 2) pm_a0_332 (by decide +kernel) ?_
    show pm_E _ _ _ 333 [(3, .int 0), (2, .ref 18), (1, .ref 0), (0, .retAddr 0)] [.int _, .int _, .ref 18, .int (-1)] _ _ _ _
    refine pm_e_call (T2 := pm_mm63) pm_a0_333 rfl rfl rfl rfl rfl rfl rfl rfl rfl ?_
    show pm_E _ _ _ 0 [(0, .ref 18), (1, .int _), (2, .int _)] [] _ _ _ _
    refine pm_e_sim pm_a63_0 rfl ?_
    show pm_E _ _ _ 1 [(0, .ref 18), (1, .int _), (2, .int _)] [.ref 18] _ _ _ _
    refine pm_e_sim pm_a63_1 rfl ?_
    show pm_E _ _ _ 2 [(0, .ref 18), (1, .int _), (2, .int _)] [.int _, .ref 18] _ _ _ _
    refine pm_e_call (T2 := pm_mm61) pm_a63_2 rfl rfl rfl rfl rfl rfl rfl rfl rfl ?_
    show pm_E _ _ _ 0 [(0, .ref 18), (1, .int _)] [] _ _ _ _
    refine pm_e_sim pm_a61_0 rfl ?_
    show pm_E _ _ _ 1 [(0, .ref 18), (1, .int _)] [.int _] _ _ _ _
    refine pm_e_sim pm_a61_1 rfl ?_
    show pm_E _ _ _ 2 [(0, .ref 18), (1, .int _)] [.long _] _ _ _ _
    refine pm_e_sim pm_a61_2 rfl ?_
    show pm_E _ _ _ 3 [(0, .ref 18), (1, .int _)] [.long _, .long _] _ _ _ _
    refine pm_e_sim pm_a61_3 rfl ?_
    show pm_E _ _ _ 4 [(0, .ref 18), (1, .int _)] [.ref 18, .long _, .long _] _ _ _ _
    refine pm_e_rd pm_a61_4 rfl rfl rfl ?_
    show pm_E _ _ _ 7 [(0, .ref 18), (1, .int _)] [.int 0, .long _, .long _] _ _ _ _
    refine pm_e_sim pm_a61_7 rfl ?_
    refine pm_e_top (y := 1) (by decide +kernel) ?_
    show pm_E _ _ _ 8 [(0, .ref 18), (1, .int _)] [.int 1, .int 0, .long _, .long _] _ _ _ _
    refine pm_e_sim pm_a61_8 rfl ?_
    refine pm_e_top (y := (-1)) (by decide +kernel) ?_
    show pm_E _ _ _ 9 [(0, .ref 18), (1, .int _)] [.int (-1), .long _, .long _] _ _ _ _
    refine pm_e_sim pm_a61_9 rfl ?_
    show pm_E _ _ _ 10 [(0, .ref 18), (1, .int _)] [.long _, .long _, .long _] _ _ _ _
    refine pm_e_call (T2 := pm_mm50) pm_a61_10 rfl rfl rfl rfl rfl rfl rfl rfl rfl ?_
    show pm_E _ _ _ 0 [(0, .long _), (2, .long _), (4, .long _)] [] _ _ _ _
    refine pm_e_sim pm_a50_0 rfl ?_
    show pm_E _ _ _ 1 [(0, .long _), (2, .long _), (4, .long _)] [.long _] _ _ _ _
    refine pm_e_sim pm_a50_1 rfl ?_
    show pm_E _ _ _ 2 [(0, .long _), (2, .long _), (4, .long _)] [.long _, .long _] _ _ _ _
    refine pm_e_sim pm_a50_2 rfl ?_
    show pm_E _ _ _ 3 [(0, .long _), (2, .long _), (4, .long _)] [.int _] _ _ _ _
    refine pm_e_iff pm_a50_3 rfl (pm_zl_gt 0 (by decide +kernel) (by omega) (by decide +kernel)) ?_
    show pm_E _ _ _ 6 [(0, .long _), (2, .long _), (4, .long _)] [] _ _ _ _
    refine pm_e_sim pm_a50_6 rfl ?_
    show pm_E _ _ _ 7 [(0, .long _), (2, .long _), (4, .long _)] [.long _] _ _ _ _
    refine pm_e_sim pm_a50_7 rfl ?_
    show pm_E _ _ _ 9 [(0, .long _), (2, .long _), (4, .long _)] [.long _, .long _] _ _ _ _
    refine pm_e_sim pm_a50_9 rfl ?_
    show pm_E _ _ _ 10 [(0, .long _), (2, .long _), (4, .long _)] [.int _] _ _ _ _
    refine pm_e_ift pm_a50_10 rfl (pm_zl_gt (-1) (by decide +kernel) (by omega) (by decide +kernel)) ?_
    show pm_E _ _ _ 17 [(0, .long _), (2, .long _), (4, .long _)] [] _ _ _ _
    refine pm_e_sim pm_a50_17 rfl ?_
    refine pm_e_top (y := 0) (by decide +kernel) ?_
    show pm_E _ _ _ 18 [(0, .long _), (2, .long _), (4, .long _)] [.int 0] _ _ _ _
    refine pm_e_ret pm_a50_18 rfl rfl rfl rfl rfl rfl rfl rfl ?_
    show pm_E _ _ _ 13 [(0, .ref 18), (1, .int _)] [.int 0] _ _ _ _
    refine pm_e_ret pm_a61_13 rfl rfl rfl rfl rfl rfl rfl rfl ?_
    show pm_E _ _ _ 5 [(0, .ref 18), (1, .int _), (2, .int _)] [.int 0] _ _ _ _
    refine pm_e_iff pm_a63_5 rfl (by decide +kernel) ?_
    show pm_E _ _ _ 8 [(0, .ref 18), (1, .int _), (2, .int _)] [] _ _ _ _
    refine pm_e_sim pm_a63_8 rfl ?_
    refine pm_e_top (y := (-1)) (by decide +kernel) ?_
    show pm_E _ _ _ 9 [(0, .ref 18), (1, .int _), (2, .int _)] [.int (-1)] _ _ _ _
    refine pm_e_ret pm_a63_9 rfl rfl rfl rfl rfl rfl rfl rfl ?_
    show pm_E _ _ _ 336 [(3, .int 0), (2, .ref 18), (1, .ref 0), (0, .retAddr 0)] [.int (-1), .int (-1)] _ _ _ _
    refine pm_e_ict pm_a0_336 rfl (by decide +kernel) ?_
    show pm_E _ _ _ 779 [(3, .int 0), (2, .ref 18), (1, .ref 0), (0, .retAddr 0)] [] _ _ _ _
    refine pm_e_inc (y := 6) pm_a0_779 rfl (by decide +kernel) (by decide +kernel) rfl ?_
    show pm_E _ _ _ 782 [(3, .int 6), (2, .ref 18), (1, .ref 0), (0, .retAddr 0)] [] _ _ _ _
    refine pm_e_goto pm_a0_782 rfl ?_
    show pm_E _ _ _ 18 [(3, .int 6), (2, .ref 18), (1, .ref 0), (0, .retAddr 0)] [] _ _ _ _
    refine pm_e_sim pm_a0_18 rfl ?_
    show pm_E _ _ _ 19 [(3, .int 6), (2, .ref 18), (1, .ref 0), (0, .retAddr 0)] [.int 6] _ _ _ _
    refine pm_e_sim pm_a0_19 rfl ?_
    show pm_E _ _ _ 20 [(3, .int 6), (2, .ref 18), (1, .ref 0), (0, .retAddr 0)] [.retAddr 0, .int 6] _ _ _ _
    refine pm_e_rd pm_a0_20 rfl rfl rfl ?_
    dsimp only
    refine pm_e_top (y := 6) (by decide +kernel) ?_
    show pm_E _ _ _ 21 [(3, .int 6), (2, .ref 18), (1, .ref 0), (0, .retAddr 0)] [.int 6, .int 6] _ _ _ _
    refine pm_e_sim pm_a0_21 rfl ?_
    refine pm_e_top (y := 6) (by decide +kernel) ?_
    show pm_E _ _ _ 23 [(3, .int 6), (2, .ref 18), (1, .ref 0), (0, .retAddr 0)] [.int 6, .int 6, .int 6] _ _ _ _
    refine pm_e_sim pm_a0_23 rfl ?_
    refine pm_e_top (y := 0) (by decide +kernel) ?_
    show pm_E _ _ _ 24 [(3, .int 6), (2, .ref 18), (1, .ref 0), (0, .retAddr 0)] [.int 0, .int 6] _ _ _ _
    refine pm_e_ict pm_a0_24 rfl (by decide +kernel) ?_
    show pm_E _ _ _ 785 [(3, .int 6), (2, .ref 18), (1, .ref 0), (0, .retAddr 0)] [] _ _ _ _
    refine pm_e_sim pm_a0_785 rfl ?_
    refine pm_e_top (y := 1) (by decide +kernel) ?_
    show pm_E _ _ _ 786 [(3, .int 6), (2, .ref 18), (1, .ref 0), (0, .retAddr 0)] [.int 1] _ _ _ _
    refine pm_e_ret pm_a0_786 rfl rfl rfl rfl rfl rfl rfl rfl ?_
    exact hQ _ _ _ (by decide +kernel) (by decide +kernel)
set_option maxHeartbeats 40000000 in
set_option maxRecDepth 200000 in
theorem pm_op7 (xs : Nat → Int32) {Q : Option Value → List va_E → Nat → Nat → Prop} (hQ : ∀ ph c n, c ≤ 600000 → n ≤ 7302250 → Q (some (.int 1)) ph c n) : pm_E (some (6, xs)) 11 pm_mm0 33 pm_L0 [.int (nI 7)] pm_H0 50 194358 Q := by
  refine pm_e_top (y := 7) (by decide +kernel) ?_
  rcases (show (xs 1).toInt < 0 ∨ (xs 1).toInt = 0 ∨ 0 < (xs 1).toInt by omega) with h1 | h1 | h1
  · rcases (show (xs 2).toInt < 0 ∨ 0 ≤ (xs 2).toInt by omega) with h2 | h2
    · refine pm_e_tsi (t := 341) pm_a0_33 rfl (by decide +kernel) ?_
      show pm_E _ _ _ 341 [(3, .int 0), (2, .ref 18), (1, .ref 0), (0, .retAddr 0)] [] _ _ _ _
      refine pm_e_sim pm_a0_341 rfl ?_
      show pm_E _ _ _ 342 [(3, .int 0), (2, .ref 18), (1, .ref 0), (0, .retAddr 0)] [.ref 0] _ _ _ _
      refine pm_e_sim pm_a0_342 rfl ?_
      show pm_E _ _ _ 343 [(3, .int 0), (2, .ref 18), (1, .ref 0), (0, .retAddr 0)] [.retAddr 0, .ref 0] _ _ _ _
      refine pm_e_sim pm_a0_343 rfl ?_
      show pm_E _ _ _ 344 [(3, .int 0), (2, .ref 18), (1, .ref 0), (0, .retAddr 0)] [.int 0, .retAddr 0, .ref 0] _ _ _ _
      refine pm_e_sim pm_a0_344 rfl ?_
      refine pm_e_top (y := 1) (by decide +kernel) ?_
      show pm_E _ _ _ 345 [(3, .int 0), (2, .ref 18), (1, .ref 0), (0, .retAddr 0)] [.int 1, .int 0, .retAddr 0, .ref 0] _ _ _ _
      refine pm_e_sim pm_a0_345 rfl ?_
      refine pm_e_top (y := 1) (by decide +kernel) ?_
      show pm_E _ _ _ 346 [(3, .int 0), (2, .ref 18), (1, .ref 0), (0, .retAddr 0)] [.int 1, .retAddr 0, .ref 0] _ _ _ _
      refine pm_e_sld (j := 1) pm_a0_346 (by decide +kernel) ?_
      show pm_E _ _ _ 347 [(3, .int 0), (2, .ref 18), (1, .ref 0), (0, .retAddr 0)] [.int _, .ref 0] _ _ _ _
      refine pm_e_sim pm_a0_347 rfl ?_
      show pm_E _ _ _ 348 [(3, .int 0), (2, .ref 18), (1, .ref 0), (0, .retAddr 0)] [.retAddr 0, .int _, .ref 0] _ _ _ _
      refine pm_e_sim pm_a0_348 rfl ?_
      show pm_E _ _ _ 349 [(3, .int 0), (2, .ref 18), (1, .ref 0), (0, .retAddr 0)] [.int 0, .retAddr 0, .int _, .ref 0] _ _ _ _
      refine pm_e_sim pm_a0_349 rfl ?_
      refine pm_e_top (y := 2) (by decide +kernel) ?_
      show pm_E _ _ _ 350 [(3, .int 0), (2, .ref 18), (1, .ref 0), (0, .retAddr 0)] [.int 2, .int 0, .retAddr 0, .int _, .ref 0] _ _ _ _
      refine pm_e_sim pm_a0_350 rfl ?_
      refine pm_e_top (y := 2) (by decide +kernel) ?_
      show pm_E _ _ _ 351 [(3, .int 0), (2, .ref 18), (1, .ref 0), (0, .retAddr 0)] [.int 2, .retAddr 0, .int _, .ref 0] _ _ _ _
      refine pm_e_sld (j := 2) pm_a0_351 (by decide +kernel) ?_
      show pm_E _ _ _ 352 [(3, .int 0), (2, .ref 18), (1, .ref 0), (0, .retAddr 0)] [.int _, .int _, .ref 0] _ _ _ _
      refine pm_e_call (T2 := pm_mm29) pm_a0_352 rfl rfl rfl rfl rfl rfl rfl rfl rfl ?_
      show pm_E _ _ _ 0 [(0, .ref 0), (1, .int _), (2, .int _)] [] _ _ _ _
      refine pm_e_sim pm_a29_0 rfl ?_
      show pm_E _ _ _ 1 [(0, .ref 0), (1, .int _), (2, .int _)] [.ref 0] _ _ _ _
      refine pm_e_sim pm_a29_1 rfl ?_
      show pm_E _ _ _ 2 [(0, .ref 0), (1, .int _), (2, .int _)] [.int _, .ref 0] _ _ _ _
      refine pm_e_call (T2 := pm_mm26) pm_a29_2 rfl rfl rfl rfl rfl rfl rfl rfl rfl ?_
      show pm_E _ _ _ 0 [(0, .ref 0), (1, .int _)] [] _ _ _ _
      refine pm_e_sim pm_a26_0 rfl ?_
      show pm_E _ _ _ 1 [(0, .ref 0), (1, .int _)] [.int _] _ _ _ _
      refine pm_e_ift pm_a26_1 rfl (pm_z_lt_t 0 (by decide +kernel) (by omega)) ?_
      show pm_E _ _ _ 30 [(0, .ref 0), (1, .int _)] [] _ _ _ _
      refine pm_e_sim pm_a26_30 rfl ?_
      show pm_E _ _ _ 31 [(0, .ref 0), (1, .int _)] [.null] _ _ _ _
      refine pm_e_ret pm_a26_31 rfl rfl rfl rfl rfl rfl rfl rfl ?_
      show pm_E _ _ _ 5 [(0, .ref 0), (1, .int _), (2, .int _)] [.null] _ _ _ _
      refine pm_e_sim pm_a29_5 rfl ?_
      show pm_E _ _ _ 6 [(3, .null), (0, .ref 0), (1, .int _), (2, .int _)] [] _ _ _ _
      refine pm_e_sim pm_a29_6 rfl ?_
      show pm_E _ _ _ 7 [(3, .null), (0, .ref 0), (1, .int _), (2, .int _)] [.ref 0] _ _ _ _
      refine pm_e_sim pm_a29_7 rfl ?_
      show pm_E _ _ _ 8 [(3, .null), (0, .ref 0), (1, .int _), (2, .int _)] [.int _, .ref 0] _ _ _ _
      refine pm_e_call (T2 := pm_mm26) pm_a29_8 rfl rfl rfl rfl rfl rfl rfl rfl rfl ?_
      show pm_E _ _ _ 0 [(0, .ref 0), (1, .int _)] [] _ _ _ _
      refine pm_e_sim pm_a26_0 rfl ?_
      show pm_E _ _ _ 1 [(0, .ref 0), (1, .int _)] [.int _] _ _ _ _
      refine pm_e_ift pm_a26_1 rfl (pm_z_lt_t 0 (by decide +kernel) (by omega)) ?_
      show pm_E _ _ _ 30 [(0, .ref 0), (1, .int _)] [] _ _ _ _
      refine pm_e_sim pm_a26_30 rfl ?_
      show pm_E _ _ _ 31 [(0, .ref 0), (1, .int _)] [.null] _ _ _ _
      refine pm_e_ret pm_a26_31 rfl rfl rfl rfl rfl rfl rfl rfl ?_
      show pm_E _ _ _ 11 [(3, .null), (0, .ref 0), (1, .int _), (2, .int _)] [.null] _ _ _ _
      refine pm_e_sim pm_a29_11 rfl ?_
      show pm_E _ _ _ 13 [(4, .null), (3, .null), (0, .ref 0), (1, .int _), (2, .int _)] [] _ _ _ _
      refine pm_e_sim pm_a29_13 rfl ?_
      show pm_E _ _ _ 14 [(4, .null), (3, .null), (0, .ref 0), (1, .int _), (2, .int _)] [.null] _ _ _ _
      refine pm_e_jmp (pc2 := 22) pm_a29_14 rfl rfl ?_
      show pm_E _ _ _ 22 [(4, .null), (3, .null), (0, .ref 0), (1, .int _), (2, .int _)] [] _ _ _ _
      refine pm_e_sim pm_a29_22 rfl ?_
      refine pm_e_top (y := (-1)) (by decide +kernel) ?_
      show pm_E _ _ _ 23 [(4, .null), (3, .null), (0, .ref 0), (1, .int _), (2, .int _)] [.int (-1)] _ _ _ _
      refine pm_e_ret pm_a29_23 rfl rfl rfl rfl rfl rfl rfl rfl ?_
      show pm_E _ _ _ 355 [(3, .int 0), (2, .ref 18), (1, .ref 0), (0, .retAddr 0)] [.int (-1)] _ _ _ _
      refine pm_e_sim pm_a0_355 rfl ?_
      show pm_E _ _ _ 356 [(3, .int 0), (2, .ref 18), (1, .ref 0), (0, .retAddr 0)] [.ref 18, .int (-1)] _ _ _ _
      refine pm_e_sim pm_a0_356 rfl ?_
      show pm_E _ _ _ 357 [(3, .int 0), (2, .ref 18), (1, .ref 0), (0, .retAddr 0)] [.retAddr 0, .ref 18, .int (-1)] _ _ _ _
      refine pm_e_sim pm_a0_357 rfl ?_
      show pm_E _ _ _ 358 [(3, .int 0), (2, .ref 18), (1, .ref 0), (0, .retAddr 0)] [.int 0, .retAddr 0, .ref 18, .int (-1)] _ _ _ _
      refine pm_e_sim pm_a0_358 rfl ?_
      refine pm_e_top (y := 1) (by decide +kernel) ?_
      show pm_E _ _ _ 359 [(3, .int 0), (2, .ref 18), (1, .ref 0), (0, .retAddr 0)] [.int 1, .int 0, .retAddr 0, .ref 18, .int (-1)] _ _ _ _
      refine pm_e_sim pm_a0_359 rfl ?_
      refine pm_e_top (y := 1) (by decide +kernel) ?_
      show pm_E _ _ _ 360 [(3, .int 0), (2, .ref 18), (1, .ref 0), (0, .retAddr 0)] [.int 1, .retAddr 0, .ref 18, .int (-1)] _ _ _ _
      refine pm_e_sld (j := 1) pm_a0_360 (by decide +kernel) ?_
      show pm_E _ _ _ 361 [(3, .int 0), (2, .ref 18), (1, .ref 0), (0, .retAddr 0)] [.int _, .ref 18, .int (-1)] _ _ _ _
      refine pm_e_sim pm_a0_361 rfl ?_
      show pm_E _ _ _ 362 [(3, .int 0), (2, .ref 18), (1, .ref 0), (0, .retAddr 0)] [.retAddr 0, .int _, .ref 18, .int (-1)] _ _ _ _
      refine pm_e_sim pm_a0_362 rfl ?_
      show pm_E _ _ _ 363 [(3, .int 0), (2, .ref 18), (1, .ref 0), (0, .retAddr 0)] [.int 0, .retAddr 0, .int _, .ref 18, .int (-1)] _ _ _ _
      refine pm_e_sim pm_a0_363 rfl ?_
      refine pm_e_top (y := 2) (by decide +kernel) ?_
      show pm_E _ _ _ 364 [(3, .int 0), (2, .ref 18), (1, .ref 0), (0, .retAddr 0)] [.int 2, .int 0, .retAddr 0, .int _, .ref 18, .int (-1)] _ _ _ _
      refine pm_e_sim pm_a0_364 rfl ?_
      refine pm_e_top (y := 2) (by decide +kernel) ?_
      show pm_E _ _ _ 365 [(3, .int 0), (2, .ref 18), (1, .ref 0), (0, .retAddr 0)] [.int 2, .retAddr 0, .int _, .ref 18, .int (-1)] _ _ _ _
      refine pm_e_sld (j := 2) pm_a0_365 (by decide +kernel) ?_
      show pm_E _ _ _ 366 [(3, .int 0), (2, .ref 18), (1, .ref 0), (0, .retAddr 0)] [.int _, .int _, .ref 18, .int (-1)] _ _ _ _
      refine pm_e_call (T2 := pm_mm64) pm_a0_366 rfl rfl rfl rfl rfl rfl rfl rfl rfl ?_
      show pm_E _ _ _ 0 [(0, .ref 18), (1, .int _), (2, .int _)] [] _ _ _ _
      refine pm_e_sim pm_a64_0 rfl ?_
      show pm_E _ _ _ 1 [(0, .ref 18), (1, .int _), (2, .int _)] [.ref 18] _ _ _ _
      refine pm_e_sim pm_a64_1 rfl ?_
      show pm_E _ _ _ 2 [(0, .ref 18), (1, .int _), (2, .int _)] [.int _, .ref 18] _ _ _ _
      refine pm_e_call (T2 := pm_mm61) pm_a64_2 rfl rfl rfl rfl rfl rfl rfl rfl rfl ?_
      show pm_E _ _ _ 0 [(0, .ref 18), (1, .int _)] [] _ _ _ _
      refine pm_e_sim pm_a61_0 rfl ?_
      show pm_E _ _ _ 1 [(0, .ref 18), (1, .int _)] [.int _] _ _ _ _
      refine pm_e_sim pm_a61_1 rfl ?_
      show pm_E _ _ _ 2 [(0, .ref 18), (1, .int _)] [.long _] _ _ _ _
      refine pm_e_sim pm_a61_2 rfl ?_
      show pm_E _ _ _ 3 [(0, .ref 18), (1, .int _)] [.long _, .long _] _ _ _ _
      refine pm_e_sim pm_a61_3 rfl ?_
      show pm_E _ _ _ 4 [(0, .ref 18), (1, .int _)] [.ref 18, .long _, .long _] _ _ _ _
      refine pm_e_rd pm_a61_4 rfl rfl rfl ?_
      show pm_E _ _ _ 7 [(0, .ref 18), (1, .int _)] [.int 0, .long _, .long _] _ _ _ _
      refine pm_e_sim pm_a61_7 rfl ?_
      refine pm_e_top (y := 1) (by decide +kernel) ?_
      show pm_E _ _ _ 8 [(0, .ref 18), (1, .int _)] [.int 1, .int 0, .long _, .long _] _ _ _ _
      refine pm_e_sim pm_a61_8 rfl ?_
      refine pm_e_top (y := (-1)) (by decide +kernel) ?_
      show pm_E _ _ _ 9 [(0, .ref 18), (1, .int _)] [.int (-1), .long _, .long _] _ _ _ _
      refine pm_e_sim pm_a61_9 rfl ?_
      show pm_E _ _ _ 10 [(0, .ref 18), (1, .int _)] [.long _, .long _, .long _] _ _ _ _
      refine pm_e_call (T2 := pm_mm50) pm_a61_10 rfl rfl rfl rfl rfl rfl rfl rfl rfl ?_
      show pm_E _ _ _ 0 [(0, .long _), (2, .long _), (4, .long _)] [] _ _ _ _
      refine pm_e_sim pm_a50_0 rfl ?_
      show pm_E _ _ _ 1 [(0, .long _), (2, .long _), (4, .long _)] [.long _] _ _ _ _
      refine pm_e_sim pm_a50_1 rfl ?_
      show pm_E _ _ _ 2 [(0, .long _), (2, .long _), (4, .long _)] [.long _, .long _] _ _ _ _
      refine pm_e_sim pm_a50_2 rfl ?_
      show pm_E _ _ _ 3 [(0, .long _), (2, .long _), (4, .long _)] [.int _] _ _ _ _
      refine pm_e_ift pm_a50_3 rfl (pm_zl_lt 0 (by decide +kernel) (by omega) (by decide +kernel)) ?_
      show pm_E _ _ _ 17 [(0, .long _), (2, .long _), (4, .long _)] [] _ _ _ _
      refine pm_e_sim pm_a50_17 rfl ?_
      refine pm_e_top (y := 0) (by decide +kernel) ?_
      show pm_E _ _ _ 18 [(0, .long _), (2, .long _), (4, .long _)] [.int 0] _ _ _ _
      refine pm_e_ret pm_a50_18 rfl rfl rfl rfl rfl rfl rfl rfl ?_
      show pm_E _ _ _ 13 [(0, .ref 18), (1, .int _)] [.int 0] _ _ _ _
      refine pm_e_ret pm_a61_13 rfl rfl rfl rfl rfl rfl rfl rfl ?_
      show pm_E _ _ _ 5 [(0, .ref 18), (1, .int _), (2, .int _)] [.int 0] _ _ _ _
      refine pm_e_ift pm_a64_5 rfl (by decide +kernel) ?_
      show pm_E _ _ _ 16 [(0, .ref 18), (1, .int _), (2, .int _)] [] _ _ _ _
      refine pm_e_sim pm_a64_16 rfl ?_
      refine pm_e_top (y := (-1)) (by decide +kernel) ?_
      show pm_E _ _ _ 17 [(0, .ref 18), (1, .int _), (2, .int _)] [.int (-1)] _ _ _ _
      refine pm_e_ret pm_a64_17 rfl rfl rfl rfl rfl rfl rfl rfl ?_
      show pm_E _ _ _ 369 [(3, .int 0), (2, .ref 18), (1, .ref 0), (0, .retAddr 0)] [.int (-1), .int (-1)] _ _ _ _
      refine pm_e_ict pm_a0_369 rfl (by decide +kernel) ?_
      show pm_E _ _ _ 779 [(3, .int 0), (2, .ref 18), (1, .ref 0), (0, .retAddr 0)] [] _ _ _ _
      refine pm_e_inc (y := 6) pm_a0_779 rfl (by decide +kernel) (by decide +kernel) rfl ?_
      show pm_E _ _ _ 782 [(3, .int 6), (2, .ref 18), (1, .ref 0), (0, .retAddr 0)] [] _ _ _ _
      refine pm_e_goto pm_a0_782 rfl ?_
      show pm_E _ _ _ 18 [(3, .int 6), (2, .ref 18), (1, .ref 0), (0, .retAddr 0)] [] _ _ _ _
      refine pm_e_sim pm_a0_18 rfl ?_
      show pm_E _ _ _ 19 [(3, .int 6), (2, .ref 18), (1, .ref 0), (0, .retAddr 0)] [.int 6] _ _ _ _
      refine pm_e_sim pm_a0_19 rfl ?_
      show pm_E _ _ _ 20 [(3, .int 6), (2, .ref 18), (1, .ref 0), (0, .retAddr 0)] [.retAddr 0, .int 6] _ _ _ _
      refine pm_e_rd pm_a0_20 rfl rfl rfl ?_
      dsimp only
      refine pm_e_top (y := 6) (by decide +kernel) ?_
      show pm_E _ _ _ 21 [(3, .int 6), (2, .ref 18), (1, .ref 0), (0, .retAddr 0)] [.int 6, .int 6] _ _ _ _
      refine pm_e_sim pm_a0_21 rfl ?_
      refine pm_e_top (y := 6) (by decide +kernel) ?_
      show pm_E _ _ _ 23 [(3, .int 6), (2, .ref 18), (1, .ref 0), (0, .retAddr 0)] [.int 6, .int 6, .int 6] _ _ _ _
      refine pm_e_sim pm_a0_23 rfl ?_
      refine pm_e_top (y := 0) (by decide +kernel) ?_
      show pm_E _ _ _ 24 [(3, .int 6), (2, .ref 18), (1, .ref 0), (0, .retAddr 0)] [.int 0, .int 6] _ _ _ _
      refine pm_e_ict pm_a0_24 rfl (by decide +kernel) ?_
      show pm_E _ _ _ 785 [(3, .int 6), (2, .ref 18), (1, .ref 0), (0, .retAddr 0)] [] _ _ _ _
      refine pm_e_sim pm_a0_785 rfl ?_
      refine pm_e_top (y := 1) (by decide +kernel) ?_
      show pm_E _ _ _ 786 [(3, .int 6), (2, .ref 18), (1, .ref 0), (0, .retAddr 0)] [.int 1] _ _ _ _
      refine pm_e_ret pm_a0_786 rfl rfl rfl rfl rfl rfl rfl rfl ?_
      exact hQ _ _ _ (by decide +kernel) (by decide +kernel)
    · refine pm_e_tsi (t := 341) pm_a0_33 rfl (by decide +kernel) ?_
      show pm_E _ _ _ 341 [(3, .int 0), (2, .ref 18), (1, .ref 0), (0, .retAddr 0)] [] _ _ _ _
      refine pm_e_sim pm_a0_341 rfl ?_
      show pm_E _ _ _ 342 [(3, .int 0), (2, .ref 18), (1, .ref 0), (0, .retAddr 0)] [.ref 0] _ _ _ _
      refine pm_e_sim pm_a0_342 rfl ?_
      show pm_E _ _ _ 343 [(3, .int 0), (2, .ref 18), (1, .ref 0), (0, .retAddr 0)] [.retAddr 0, .ref 0] _ _ _ _
      refine pm_e_sim pm_a0_343 rfl ?_
      show pm_E _ _ _ 344 [(3, .int 0), (2, .ref 18), (1, .ref 0), (0, .retAddr 0)] [.int 0, .retAddr 0, .ref 0] _ _ _ _
      refine pm_e_sim pm_a0_344 rfl ?_
      refine pm_e_top (y := 1) (by decide +kernel) ?_
      show pm_E _ _ _ 345 [(3, .int 0), (2, .ref 18), (1, .ref 0), (0, .retAddr 0)] [.int 1, .int 0, .retAddr 0, .ref 0] _ _ _ _
      refine pm_e_sim pm_a0_345 rfl ?_
      refine pm_e_top (y := 1) (by decide +kernel) ?_
      show pm_E _ _ _ 346 [(3, .int 0), (2, .ref 18), (1, .ref 0), (0, .retAddr 0)] [.int 1, .retAddr 0, .ref 0] _ _ _ _
      refine pm_e_sld (j := 1) pm_a0_346 (by decide +kernel) ?_
      show pm_E _ _ _ 347 [(3, .int 0), (2, .ref 18), (1, .ref 0), (0, .retAddr 0)] [.int _, .ref 0] _ _ _ _
      refine pm_e_sim pm_a0_347 rfl ?_
      show pm_E _ _ _ 348 [(3, .int 0), (2, .ref 18), (1, .ref 0), (0, .retAddr 0)] [.retAddr 0, .int _, .ref 0] _ _ _ _
      refine pm_e_sim pm_a0_348 rfl ?_
      show pm_E _ _ _ 349 [(3, .int 0), (2, .ref 18), (1, .ref 0), (0, .retAddr 0)] [.int 0, .retAddr 0, .int _, .ref 0] _ _ _ _
      refine pm_e_sim pm_a0_349 rfl ?_
      refine pm_e_top (y := 2) (by decide +kernel) ?_
      show pm_E _ _ _ 350 [(3, .int 0), (2, .ref 18), (1, .ref 0), (0, .retAddr 0)] [.int 2, .int 0, .retAddr 0, .int _, .ref 0] _ _ _ _
      refine pm_e_sim pm_a0_350 rfl ?_
      refine pm_e_top (y := 2) (by decide +kernel) ?_
      show pm_E _ _ _ 351 [(3, .int 0), (2, .ref 18), (1, .ref 0), (0, .retAddr 0)] [.int 2, .retAddr 0, .int _, .ref 0] _ _ _ _
      refine pm_e_sld (j := 2) pm_a0_351 (by decide +kernel) ?_
      show pm_E _ _ _ 352 [(3, .int 0), (2, .ref 18), (1, .ref 0), (0, .retAddr 0)] [.int _, .int _, .ref 0] _ _ _ _
      refine pm_e_call (T2 := pm_mm29) pm_a0_352 rfl rfl rfl rfl rfl rfl rfl rfl rfl ?_
      show pm_E _ _ _ 0 [(0, .ref 0), (1, .int _), (2, .int _)] [] _ _ _ _
      refine pm_e_sim pm_a29_0 rfl ?_
      show pm_E _ _ _ 1 [(0, .ref 0), (1, .int _), (2, .int _)] [.ref 0] _ _ _ _
      refine pm_e_sim pm_a29_1 rfl ?_
      show pm_E _ _ _ 2 [(0, .ref 0), (1, .int _), (2, .int _)] [.int _, .ref 0] _ _ _ _
      refine pm_e_call (T2 := pm_mm26) pm_a29_2 rfl rfl rfl rfl rfl rfl rfl rfl rfl ?_
      show pm_E _ _ _ 0 [(0, .ref 0), (1, .int _)] [] _ _ _ _
      refine pm_e_sim pm_a26_0 rfl ?_
      show pm_E _ _ _ 1 [(0, .ref 0), (1, .int _)] [.int _] _ _ _ _
      refine pm_e_ift pm_a26_1 rfl (pm_z_lt_t 0 (by decide +kernel) (by omega)) ?_
      show pm_E _ _ _ 30 [(0, .ref 0), (1, .int _)] [] _ _ _ _
      refine pm_e_sim pm_a26_30 rfl ?_
      show pm_E _ _ _ 31 [(0, .ref 0), (1, .int _)] [.null] _ _ _ _
      refine pm_e_ret pm_a26_31 rfl rfl rfl rfl rfl rfl rfl rfl ?_
      show pm_E _ _ _ 5 [(0, .ref 0), (1, .int _), (2, .int _)] [.null] _ _ _ _
      refine pm_e_sim pm_a29_5 rfl ?_
      show pm_E _ _ _ 6 [(3, .null), (0, .ref 0), (1, .int _), (2, .int _)] [] _ _ _ _
      refine pm_e_sim pm_a29_6 rfl ?_
      show pm_E _ _ _ 7 [(3, .null), (0, .ref 0), (1, .int _), (2, .int _)] [.ref 0] _ _ _ _
      refine pm_e_sim pm_a29_7 rfl ?_
      show pm_E _ _ _ 8 [(3, .null), (0, .ref 0), (1, .int _), (2, .int _)] [.int _, .ref 0] _ _ _ _
      refine pm_e_call (T2 := pm_mm26) pm_a29_8 rfl rfl rfl rfl rfl rfl rfl rfl rfl ?_
      show pm_E _ _ _ 0 [(0, .ref 0), (1, .int _)] [] _ _ _ _
      refine pm_e_sim pm_a26_0 rfl ?_
      show pm_E _ _ _ 1 [(0, .ref 0), (1, .int _)] [.int _] _ _ _ _
      refine pm_e_iff pm_a26_1 rfl (pm_z_lt_f 0 (by decide +kernel) (by omega)) ?_
      show pm_E _ _ _ 4 [(0, .ref 0), (1, .int _)] [] _ _ _ _
      refine pm_e_sim pm_a26_4 rfl ?_
      show pm_E _ _ _ 5 [(0, .ref 0), (1, .int _)] [.int _] _ _ _ _
      refine pm_e_sim pm_a26_5 rfl ?_
      show pm_E _ _ _ 6 [(0, .ref 0), (1, .int _)] [.ref 0, .int _] _ _ _ _
      refine pm_e_rd pm_a26_6 rfl rfl rfl ?_
      show pm_E _ _ _ 9 [(0, .ref 0), (1, .int _)] [.int 0, .int _] _ _ _ _
      refine pm_e_ict pm_a26_9 rfl (pm_z_ge_t 0 (by decide +kernel) (by omega)) ?_
      show pm_E _ _ _ 30 [(0, .ref 0), (1, .int _)] [] _ _ _ _
      refine pm_e_sim pm_a26_30 rfl ?_
      show pm_E _ _ _ 31 [(0, .ref 0), (1, .int _)] [.null] _ _ _ _
      refine pm_e_ret pm_a26_31 rfl rfl rfl rfl rfl rfl rfl rfl ?_
      show pm_E _ _ _ 11 [(3, .null), (0, .ref 0), (1, .int _), (2, .int _)] [.null] _ _ _ _
      refine pm_e_sim pm_a29_11 rfl ?_
      show pm_E _ _ _ 13 [(4, .null), (3, .null), (0, .ref 0), (1, .int _), (2, .int _)] [] _ _ _ _
      refine pm_e_sim pm_a29_13 rfl ?_
      show pm_E _ _ _ 14 [(4, .null), (3, .null), (0, .ref 0), (1, .int _), (2, .int _)] [.null] _ _ _ _
      refine pm_e_jmp (pc2 := 22) pm_a29_14 rfl rfl ?_
      show pm_E _ _ _ 22 [(4, .null), (3, .null), (0, .ref 0), (1, .int _), (2, .int _)] [] _ _ _ _
      refine pm_e_sim pm_a29_22 rfl ?_
      refine pm_e_top (y := (-1)) (by decide +kernel) ?_
      show pm_E _ _ _ 23 [(4, .null), (3, .null), (0, .ref 0), (1, .int _), (2, .int _)] [.int (-1)] _ _ _ _
      refine pm_e_ret pm_a29_23 rfl rfl rfl rfl rfl rfl rfl rfl ?_
      show pm_E _ _ _ 355 [(3, .int 0), (2, .ref 18), (1, .ref 0), (0, .retAddr 0)] [.int (-1)] _ _ _ _
      refine pm_e_sim pm_a0_355 rfl ?_
      show pm_E _ _ _ 356 [(3, .int 0), (2, .ref 18), (1, .ref 0), (0, .retAddr 0)] [.ref 18, .int (-1)] _ _ _ _
      refine pm_e_sim pm_a0_356 rfl ?_
      show pm_E _ _ _ 357 [(3, .int 0), (2, .ref 18), (1, .ref 0), (0, .retAddr 0)] [.retAddr 0, .ref 18, .int (-1)] _ _ _ _
      refine pm_e_sim pm_a0_357 rfl ?_
      show pm_E _ _ _ 358 [(3, .int 0), (2, .ref 18), (1, .ref 0), (0, .retAddr 0)] [.int 0, .retAddr 0, .ref 18, .int (-1)] _ _ _ _
      refine pm_e_sim pm_a0_358 rfl ?_
      refine pm_e_top (y := 1) (by decide +kernel) ?_
      show pm_E _ _ _ 359 [(3, .int 0), (2, .ref 18), (1, .ref 0), (0, .retAddr 0)] [.int 1, .int 0, .retAddr 0, .ref 18, .int (-1)] _ _ _ _
      refine pm_e_sim pm_a0_359 rfl ?_
      refine pm_e_top (y := 1) (by decide +kernel) ?_
      show pm_E _ _ _ 360 [(3, .int 0), (2, .ref 18), (1, .ref 0), (0, .retAddr 0)] [.int 1, .retAddr 0, .ref 18, .int (-1)] _ _ _ _
      refine pm_e_sld (j := 1) pm_a0_360 (by decide +kernel) ?_
      show pm_E _ _ _ 361 [(3, .int 0), (2, .ref 18), (1, .ref 0), (0, .retAddr 0)] [.int _, .ref 18, .int (-1)] _ _ _ _
      refine pm_e_sim pm_a0_361 rfl ?_
      show pm_E _ _ _ 362 [(3, .int 0), (2, .ref 18), (1, .ref 0), (0, .retAddr 0)] [.retAddr 0, .int _, .ref 18, .int (-1)] _ _ _ _
      refine pm_e_sim pm_a0_362 rfl ?_
      show pm_E _ _ _ 363 [(3, .int 0), (2, .ref 18), (1, .ref 0), (0, .retAddr 0)] [.int 0, .retAddr 0, .int _, .ref 18, .int (-1)] _ _ _ _
      refine pm_e_sim pm_a0_363 rfl ?_
      refine pm_e_top (y := 2) (by decide +kernel) ?_
      show pm_E _ _ _ 364 [(3, .int 0), (2, .ref 18), (1, .ref 0), (0, .retAddr 0)] [.int 2, .int 0, .retAddr 0, .int _, .ref 18, .int (-1)] _ _ _ _
      refine pm_e_sim pm_a0_364 rfl ?_
      refine pm_e_top (y := 2) (by decide +kernel) ?_
      show pm_E _ _ _ 365 [(3, .int 0), (2, .ref 18), (1, .ref 0), (0, .retAddr 0)] [.int 2, .retAddr 0, .int _, .ref 18, .int (-1)] _ _ _ _
      refine pm_e_sld (j := 2) pm_a0_365 (by decide +kernel) ?_
      show pm_E _ _ _ 366 [(3, .int 0), (2, .ref 18), (1, .ref 0), (0, .retAddr 0)] [.int _, .int _, .ref 18, .int (-1)] _ _ _ _
      refine pm_e_call (T2 := pm_mm64) pm_a0_366 rfl rfl rfl rfl rfl rfl rfl rfl rfl ?_
      show pm_E _ _ _ 0 [(0, .ref 18), (1, .int _), (2, .int _)] [] _ _ _ _
      refine pm_e_sim pm_a64_0 rfl ?_
      show pm_E _ _ _ 1 [(0, .ref 18), (1, .int _), (2, .int _)] [.ref 18] _ _ _ _
      refine pm_e_sim pm_a64_1 rfl ?_
      show pm_E _ _ _ 2 [(0, .ref 18), (1, .int _), (2, .int _)] [.int _, .ref 18] _ _ _ _
      refine pm_e_call (T2 := pm_mm61) pm_a64_2 rfl rfl rfl rfl rfl rfl rfl rfl rfl ?_
      show pm_E _ _ _ 0 [(0, .ref 18), (1, .int _)] [] _ _ _ _
      refine pm_e_sim pm_a61_0 rfl ?_
      show pm_E _ _ _ 1 [(0, .ref 18), (1, .int _)] [.int _] _ _ _ _
      refine pm_e_sim pm_a61_1 rfl ?_
      show pm_E _ _ _ 2 [(0, .ref 18), (1, .int _)] [.long _] _ _ _ _
      refine pm_e_sim pm_a61_2 rfl ?_
      show pm_E _ _ _ 3 [(0, .ref 18), (1, .int _)] [.long _, .long _] _ _ _ _
      refine pm_e_sim pm_a61_3 rfl ?_
      show pm_E _ _ _ 4 [(0, .ref 18), (1, .int _)] [.ref 18, .long _, .long _] _ _ _ _
      refine pm_e_rd pm_a61_4 rfl rfl rfl ?_
      show pm_E _ _ _ 7 [(0, .ref 18), (1, .int _)] [.int 0, .long _, .long _] _ _ _ _
      refine pm_e_sim pm_a61_7 rfl ?_
      refine pm_e_top (y := 1) (by decide +kernel) ?_
      show pm_E _ _ _ 8 [(0, .ref 18), (1, .int _)] [.int 1, .int 0, .long _, .long _] _ _ _ _
      refine pm_e_sim pm_a61_8 rfl ?_
      refine pm_e_top (y := (-1)) (by decide +kernel) ?_
      show pm_E _ _ _ 9 [(0, .ref 18), (1, .int _)] [.int (-1), .long _, .long _] _ _ _ _
      refine pm_e_sim pm_a61_9 rfl ?_
      show pm_E _ _ _ 10 [(0, .ref 18), (1, .int _)] [.long _, .long _, .long _] _ _ _ _
      refine pm_e_call (T2 := pm_mm50) pm_a61_10 rfl rfl rfl rfl rfl rfl rfl rfl rfl ?_
      show pm_E _ _ _ 0 [(0, .long _), (2, .long _), (4, .long _)] [] _ _ _ _
      refine pm_e_sim pm_a50_0 rfl ?_
      show pm_E _ _ _ 1 [(0, .long _), (2, .long _), (4, .long _)] [.long _] _ _ _ _
      refine pm_e_sim pm_a50_1 rfl ?_
      show pm_E _ _ _ 2 [(0, .long _), (2, .long _), (4, .long _)] [.long _, .long _] _ _ _ _
      refine pm_e_sim pm_a50_2 rfl ?_
      show pm_E _ _ _ 3 [(0, .long _), (2, .long _), (4, .long _)] [.int _] _ _ _ _
      refine pm_e_ift pm_a50_3 rfl (pm_zl_lt 0 (by decide +kernel) (by omega) (by decide +kernel)) ?_
      show pm_E _ _ _ 17 [(0, .long _), (2, .long _), (4, .long _)] [] _ _ _ _
      refine pm_e_sim pm_a50_17 rfl ?_
      refine pm_e_top (y := 0) (by decide +kernel) ?_
      show pm_E _ _ _ 18 [(0, .long _), (2, .long _), (4, .long _)] [.int 0] _ _ _ _
      refine pm_e_ret pm_a50_18 rfl rfl rfl rfl rfl rfl rfl rfl ?_
      show pm_E _ _ _ 13 [(0, .ref 18), (1, .int _)] [.int 0] _ _ _ _
      refine pm_e_ret pm_a61_13 rfl rfl rfl rfl rfl rfl rfl rfl ?_
      show pm_E _ _ _ 5 [(0, .ref 18), (1, .int _), (2, .int _)] [.int 0] _ _ _ _
      refine pm_e_ift pm_a64_5 rfl (by decide +kernel) ?_
      show pm_E _ _ _ 16 [(0, .ref 18), (1, .int _), (2, .int _)] [] _ _ _ _
      refine pm_e_sim pm_a64_16 rfl ?_
      refine pm_e_top (y := (-1)) (by decide +kernel) ?_
      show pm_E _ _ _ 17 [(0, .ref 18), (1, .int _), (2, .int _)] [.int (-1)] _ _ _ _
      refine pm_e_ret pm_a64_17 rfl rfl rfl rfl rfl rfl rfl rfl ?_
      show pm_E _ _ _ 369 [(3, .int 0), (2, .ref 18), (1, .ref 0), (0, .retAddr 0)] [.int (-1), .int (-1)] _ _ _ _
      refine pm_e_ict pm_a0_369 rfl (by decide +kernel) ?_
      show pm_E _ _ _ 779 [(3, .int 0), (2, .ref 18), (1, .ref 0), (0, .retAddr 0)] [] _ _ _ _
      refine pm_e_inc (y := 6) pm_a0_779 rfl (by decide +kernel) (by decide +kernel) rfl ?_
      show pm_E _ _ _ 782 [(3, .int 6), (2, .ref 18), (1, .ref 0), (0, .retAddr 0)] [] _ _ _ _
      refine pm_e_goto pm_a0_782 rfl ?_
      show pm_E _ _ _ 18 [(3, .int 6), (2, .ref 18), (1, .ref 0), (0, .retAddr 0)] [] _ _ _ _
      refine pm_e_sim pm_a0_18 rfl ?_
      show pm_E _ _ _ 19 [(3, .int 6), (2, .ref 18), (1, .ref 0), (0, .retAddr 0)] [.int 6] _ _ _ _
      refine pm_e_sim pm_a0_19 rfl ?_
      show pm_E _ _ _ 20 [(3, .int 6), (2, .ref 18), (1, .ref 0), (0, .retAddr 0)] [.retAddr 0, .int 6] _ _ _ _
      refine pm_e_rd pm_a0_20 rfl rfl rfl ?_
      dsimp only
      refine pm_e_top (y := 6) (by decide +kernel) ?_
      show pm_E _ _ _ 21 [(3, .int 6), (2, .ref 18), (1, .ref 0), (0, .retAddr 0)] [.int 6, .int 6] _ _ _ _
      refine pm_e_sim pm_a0_21 rfl ?_
      refine pm_e_top (y := 6) (by decide +kernel) ?_
      show pm_E _ _ _ 23 [(3, .int 6), (2, .ref 18), (1, .ref 0), (0, .retAddr 0)] [.int 6, .int 6, .int 6] _ _ _ _
      refine pm_e_sim pm_a0_23 rfl ?_
      refine pm_e_top (y := 0) (by decide +kernel) ?_
      show pm_E _ _ _ 24 [(3, .int 6), (2, .ref 18), (1, .ref 0), (0, .retAddr 0)] [.int 0, .int 6] _ _ _ _
      refine pm_e_ict pm_a0_24 rfl (by decide +kernel) ?_
      show pm_E _ _ _ 785 [(3, .int 6), (2, .ref 18), (1, .ref 0), (0, .retAddr 0)] [] _ _ _ _
      refine pm_e_sim pm_a0_785 rfl ?_
      refine pm_e_top (y := 1) (by decide +kernel) ?_
      show pm_E _ _ _ 786 [(3, .int 6), (2, .ref 18), (1, .ref 0), (0, .retAddr 0)] [.int 1] _ _ _ _
      refine pm_e_ret pm_a0_786 rfl rfl rfl rfl rfl rfl rfl rfl ?_
      exact hQ _ _ _ (by decide +kernel) (by decide +kernel)
  · rcases (show (xs 2).toInt < 0 ∨ 0 ≤ (xs 2).toInt by omega) with h2 | h2
    · refine pm_e_tsi (t := 341) pm_a0_33 rfl (by decide +kernel) ?_
      show pm_E _ _ _ 341 [(3, .int 0), (2, .ref 18), (1, .ref 0), (0, .retAddr 0)] [] _ _ _ _
      refine pm_e_sim pm_a0_341 rfl ?_
      show pm_E _ _ _ 342 [(3, .int 0), (2, .ref 18), (1, .ref 0), (0, .retAddr 0)] [.ref 0] _ _ _ _
      refine pm_e_sim pm_a0_342 rfl ?_
      show pm_E _ _ _ 343 [(3, .int 0), (2, .ref 18), (1, .ref 0), (0, .retAddr 0)] [.retAddr 0, .ref 0] _ _ _ _
      refine pm_e_sim pm_a0_343 rfl ?_
      show pm_E _ _ _ 344 [(3, .int 0), (2, .ref 18), (1, .ref 0), (0, .retAddr 0)] [.int 0, .retAddr 0, .ref 0] _ _ _ _
      refine pm_e_sim pm_a0_344 rfl ?_
      refine pm_e_top (y := 1) (by decide +kernel) ?_
      show pm_E _ _ _ 345 [(3, .int 0), (2, .ref 18), (1, .ref 0), (0, .retAddr 0)] [.int 1, .int 0, .retAddr 0, .ref 0] _ _ _ _
      refine pm_e_sim pm_a0_345 rfl ?_
      refine pm_e_top (y := 1) (by decide +kernel) ?_
      show pm_E _ _ _ 346 [(3, .int 0), (2, .ref 18), (1, .ref 0), (0, .retAddr 0)] [.int 1, .retAddr 0, .ref 0] _ _ _ _
      refine pm_e_sld (j := 1) pm_a0_346 (by decide +kernel) ?_
      show pm_E _ _ _ 347 [(3, .int 0), (2, .ref 18), (1, .ref 0), (0, .retAddr 0)] [.int _, .ref 0] _ _ _ _
      refine pm_e_sim pm_a0_347 rfl ?_
      show pm_E _ _ _ 348 [(3, .int 0), (2, .ref 18), (1, .ref 0), (0, .retAddr 0)] [.retAddr 0, .int _, .ref 0] _ _ _ _
      refine pm_e_sim pm_a0_348 rfl ?_
      show pm_E _ _ _ 349 [(3, .int 0), (2, .ref 18), (1, .ref 0), (0, .retAddr 0)] [.int 0, .retAddr 0, .int _, .ref 0] _ _ _ _
      refine pm_e_sim pm_a0_349 rfl ?_
      refine pm_e_top (y := 2) (by decide +kernel) ?_
      show pm_E _ _ _ 350 [(3, .int 0), (2, .ref 18), (1, .ref 0), (0, .retAddr 0)] [.int 2, .int 0, .retAddr 0, .int _, .ref 0] _ _ _ _
      refine pm_e_sim pm_a0_350 rfl ?_
      refine pm_e_top (y := 2) (by decide +kernel) ?_
      show pm_E _ _ _ 351 [(3, .int 0), (2, .ref 18), (1, .ref 0), (0, .retAddr 0)] [.int 2, .retAddr 0, .int _, .ref 0] _ _ _ _
      refine pm_e_sld (j := 2) pm_a0_351 (by decide +kernel) ?_
      show pm_E _ _ _ 352 [(3, .int 0), (2, .ref 18), (1, .ref 0), (0, .retAddr 0)] [.int _, .int _, .ref 0] _ _ _ _
      refine pm_e_call (T2 := pm_mm29) pm_a0_352 rfl rfl rfl rfl rfl rfl rfl rfl rfl ?_
      show pm_E _ _ _ 0 [(0, .ref 0), (1, .int _), (2, .int _)] [] _ _ _ _
      refine pm_e_sim pm_a29_0 rfl ?_
      show pm_E _ _ _ 1 [(0, .ref 0), (1, .int _), (2, .int _)] [.ref 0] _ _ _ _
      refine pm_e_sim pm_a29_1 rfl ?_
      show pm_E _ _ _ 2 [(0, .ref 0), (1, .int _), (2, .int _)] [.int _, .ref 0] _ _ _ _
      refine pm_e_call (T2 := pm_mm26) pm_a29_2 rfl rfl rfl rfl rfl rfl rfl rfl rfl ?_
      show pm_E _ _ _ 0 [(0, .ref 0), (1, .int _)] [] _ _ _ _
      refine pm_e_sim pm_a26_0 rfl ?_
      show pm_E _ _ _ 1 [(0, .ref 0), (1, .int _)] [.int _] _ _ _ _
      refine pm_e_iff pm_a26_1 rfl (pm_z_lt_f 0 (by decide +kernel) (by omega)) ?_
      show pm_E _ _ _ 4 [(0, .ref 0), (1, .int _)] [] _ _ _ _
      refine pm_e_sim pm_a26_4 rfl ?_
      show pm_E _ _ _ 5 [(0, .ref 0), (1, .int _)] [.int _] _ _ _ _
      refine pm_e_sim pm_a26_5 rfl ?_
      show pm_E _ _ _ 6 [(0, .ref 0), (1, .int _)] [.ref 0, .int _] _ _ _ _
      refine pm_e_rd pm_a26_6 rfl rfl rfl ?_
      show pm_E _ _ _ 9 [(0, .ref 0), (1, .int _)] [.int 0, .int _] _ _ _ _
      refine pm_e_ict pm_a26_9 rfl (pm_z_ge_t 0 (by decide +kernel) (by omega)) ?_
      show pm_E _ _ _ 30 [(0, .ref 0), (1, .int _)] [] _ _ _ _
      refine pm_e_sim pm_a26_30 rfl ?_
      show pm_E _ _ _ 31 [(0, .ref 0), (1, .int _)] [.null] _ _ _ _
      refine pm_e_ret pm_a26_31 rfl rfl rfl rfl rfl rfl rfl rfl ?_
      show pm_E _ _ _ 5 [(0, .ref 0), (1, .int _), (2, .int _)] [.null] _ _ _ _
      refine pm_e_sim pm_a29_5 rfl ?_
      show pm_E _ _ _ 6 [(3, .null), (0, .ref 0), (1, .int _), (2, .int _)] [] _ _ _ _
      refine pm_e_sim pm_a29_6 rfl ?_
      show pm_E _ _ _ 7 [(3, .null), (0, .ref 0), (1, .int _), (2, .int _)] [.ref 0] _ _ _ _
      refine pm_e_sim pm_a29_7 rfl ?_
      show pm_E _ _ _ 8 [(3, .null), (0, .ref 0), (1, .int _), (2, .int _)] [.int _, .ref 0] _ _ _ _
      refine pm_e_call (T2 := pm_mm26) pm_a29_8 rfl rfl rfl rfl rfl rfl rfl rfl rfl ?_
      show pm_E _ _ _ 0 [(0, .ref 0), (1, .int _)] [] _ _ _ _
      refine pm_e_sim pm_a26_0 rfl ?_
      show pm_E _ _ _ 1 [(0, .ref 0), (1, .int _)] [.int _] _ _ _ _
      refine pm_e_ift pm_a26_1 rfl (pm_z_lt_t 0 (by decide +kernel) (by omega)) ?_
      show pm_E _ _ _ 30 [(0, .ref 0), (1, .int _)] [] _ _ _ _
      refine pm_e_sim pm_a26_30 rfl ?_
      show pm_E _ _ _ 31 [(0, .ref 0), (1, .int _)] [.null] _ _ _ _
      refine pm_e_ret pm_a26_31 rfl rfl rfl rfl rfl rfl rfl rfl ?_
      show pm_E _ _ _ 11 [(3, .null), (0, .ref 0), (1, .int _), (2, .int _)] [.null] _ _ _ _
      refine pm_e_sim pm_a29_11 rfl ?_
      show pm_E _ _ _ 13 [(4, .null), (3, .null), (0, .ref 0), (1, .int _), (2, .int _)] [] _ _ _ _
      refine pm_e_sim pm_a29_13 rfl ?_
      show pm_E _ _ _ 14 [(4, .null), (3, .null), (0, .ref 0), (1, .int _), (2, .int _)] [.null] _ _ _ _
      refine pm_e_jmp (pc2 := 22) pm_a29_14 rfl rfl ?_
      show pm_E _ _ _ 22 [(4, .null), (3, .null), (0, .ref 0), (1, .int _), (2, .int _)] [] _ _ _ _
      refine pm_e_sim pm_a29_22 rfl ?_
      refine pm_e_top (y := (-1)) (by decide +kernel) ?_
      show pm_E _ _ _ 23 [(4, .null), (3, .null), (0, .ref 0), (1, .int _), (2, .int _)] [.int (-1)] _ _ _ _
      refine pm_e_ret pm_a29_23 rfl rfl rfl rfl rfl rfl rfl rfl ?_
      show pm_E _ _ _ 355 [(3, .int 0), (2, .ref 18), (1, .ref 0), (0, .retAddr 0)] [.int (-1)] _ _ _ _
      refine pm_e_sim pm_a0_355 rfl ?_
      show pm_E _ _ _ 356 [(3, .int 0), (2, .ref 18), (1, .ref 0), (0, .retAddr 0)] [.ref 18, .int (-1)] _ _ _ _
      refine pm_e_sim pm_a0_356 rfl ?_
      show pm_E _ _ _ 357 [(3, .int 0), (2, .ref 18), (1, .ref 0), (0, .retAddr 0)] [.retAddr 0, .ref 18, .int (-1)] _ _ _ _
      refine pm_e_sim pm_a0_357 rfl ?_
      show pm_E _ _ _ 358 [(3, .int 0), (2, .ref 18), (1, .ref 0), (0, .retAddr 0)] [.int 0, .retAddr 0, .ref 18, .int (-1)] _ _ _ _
      refine pm_e_sim pm_a0_358 rfl ?_
      refine pm_e_top (y := 1) (by decide +kernel) ?_
      show pm_E _ _ _ 359 [(3, .int 0), (2, .ref 18), (1, .ref 0), (0, .retAddr 0)] [.int 1, .int 0, .retAddr 0, .ref 18, .int (-1)] _ _ _ _
      refine pm_e_sim pm_a0_359 rfl ?_
      refine pm_e_top (y := 1) (by decide +kernel) ?_
      show pm_E _ _ _ 360 [(3, .int 0), (2, .ref 18), (1, .ref 0), (0, .retAddr 0)] [.int 1, .retAddr 0, .ref 18, .int (-1)] _ _ _ _
      refine pm_e_sld (j := 1) pm_a0_360 (by decide +kernel) ?_
      show pm_E _ _ _ 361 [(3, .int 0), (2, .ref 18), (1, .ref 0), (0, .retAddr 0)] [.int _, .ref 18, .int (-1)] _ _ _ _
      refine pm_e_sim pm_a0_361 rfl ?_
      show pm_E _ _ _ 362 [(3, .int 0), (2, .ref 18), (1, .ref 0), (0, .retAddr 0)] [.retAddr 0, .int _, .ref 18, .int (-1)] _ _ _ _
      refine pm_e_sim pm_a0_362 rfl ?_
      show pm_E _ _ _ 363 [(3, .int 0), (2, .ref 18), (1, .ref 0), (0, .retAddr 0)] [.int 0, .retAddr 0, .int _, .ref 18, .int (-1)] _ _ _ _
      refine pm_e_sim pm_a0_363 rfl ?_
      refine pm_e_top (y := 2) (by decide +kernel) ?_
      show pm_E _ _ _ 364 [(3, .int 0), (2, .ref 18), (1, .ref 0), (0, .retAddr 0)] [.int 2, .int 0, .retAddr 0, .int _, .ref 18, .int (-1)] _ _ _ _
      refine pm_e_sim pm_a0_364 rfl ?_
      refine pm_e_top (y := 2) (by decide +kernel) ?_
      show pm_E _ _ _ 365 [(3, .int 0), (2, .ref 18), (1, .ref 0), (0, .retAddr 0)] [.int 2, .retAddr 0, .int _, .ref 18, .int (-1)] _ _ _ _
      refine pm_e_sld (j := 2) pm_a0_365 (by decide +kernel) ?_
      show pm_E _ _ _ 366 [(3, .int 0), (2, .ref 18), (1, .ref 0), (0, .retAddr 0)] [.int _, .int _, .ref 18, .int (-1)] _ _ _ _
      refine pm_e_call (T2 := pm_mm64) pm_a0_366 rfl rfl rfl rfl rfl rfl rfl rfl rfl ?_
      show pm_E _ _ _ 0 [(0, .ref 18), (1, .int _), (2, .int _)] [] _ _ _ _
      refine pm_e_sim pm_a64_0 rfl ?_
      show pm_E _ _ _ 1 [(0, .ref 18), (1, .int _), (2, .int _)] [.ref 18] _ _ _ _
      refine pm_e_sim pm_a64_1 rfl ?_
      show pm_E _ _ _ 2 [(0, .ref 18), (1, .int _), (2, .int _)] [.int _, .ref 18] _ _ _ _
      refine pm_e_call (T2 := pm_mm61) pm_a64_2 rfl rfl rfl rfl rfl rfl rfl rfl rfl ?_
      show pm_E _ _ _ 0 [(0, .ref 18), (1, .int _)] [] _ _ _ _
      refine pm_e_sim pm_a61_0 rfl ?_
      show pm_E _ _ _ 1 [(0, .ref 18), (1, .int _)] [.int _] _ _ _ _
      refine pm_e_sim pm_a61_1 rfl ?_
      show pm_E _ _ _ 2 [(0, .ref 18), (1, .int _)] [.long _] _ _ _ _
      refine pm_e_sim pm_a61_2 rfl ?_
      show pm_E _ _ _ 3 [(0, .ref 18), (1, .int _)] [.long _, .long _] _ _ _ _
      refine pm_e_sim pm_a61_3 rfl ?_
      show pm_E _ _ _ 4 [(0, .ref 18), (1, .int _)] [.ref 18, .long _, .long _] _ _ _ _
      refine pm_e_rd pm_a61_4 rfl rfl rfl ?_
      show pm_E _ _ _ 7 [(0, .ref 18), (1, .int _)] [.int 0, .long _, .long _] _ _ _ _
      refine pm_e_sim pm_a61_7 rfl ?_
      refine pm_e_top (y := 1) (by decide +kernel) ?_
      show pm_E _ _ _ 8 [(0, .ref 18), (1, .int _)] [.int 1, .int 0, .long _, .long _] _ _ _ _
      refine pm_e_sim pm_a61_8 rfl ?_
      refine pm_e_top (y := (-1)) (by decide +kernel) ?_
      show pm_E _ _ _ 9 [(0, .ref 18), (1, .int _)] [.int (-1), .long _, .long _] _ _ _ _
      refine pm_e_sim pm_a61_9 rfl ?_
      show pm_E _ _ _ 10 [(0, .ref 18), (1, .int _)] [.long _, .long _, .long _] _ _ _ _
      refine pm_e_call (T2 := pm_mm50) pm_a61_10 rfl rfl rfl rfl rfl rfl rfl rfl rfl ?_
      show pm_E _ _ _ 0 [(0, .long _), (2, .long _), (4, .long _)] [] _ _ _ _
      refine pm_e_sim pm_a50_0 rfl ?_
      show pm_E _ _ _ 1 [(0, .long _), (2, .long _), (4, .long _)] [.long _] _ _ _ _
      refine pm_e_sim pm_a50_1 rfl ?_
      show pm_E _ _ _ 2 [(0, .long _), (2, .long _), (4, .long _)] [.long _, .long _] _ _ _ _
      refine pm_e_sim pm_a50_2 rfl ?_
      show pm_E _ _ _ 3 [(0, .long _), (2, .long _), (4, .long _)] [.int _] _ _ _ _
      refine pm_e_iff pm_a50_3 rfl (pm_zl_eq 0 (by decide +kernel) (by omega) (by decide +kernel)) ?_
      show pm_E _ _ _ 6 [(0, .long _), (2, .long _), (4, .long _)] [] _ _ _ _
      refine pm_e_sim pm_a50_6 rfl ?_
      show pm_E _ _ _ 7 [(0, .long _), (2, .long _), (4, .long _)] [.long _] _ _ _ _
      refine pm_e_sim pm_a50_7 rfl ?_
      show pm_E _ _ _ 9 [(0, .long _), (2, .long _), (4, .long _)] [.long _, .long _] _ _ _ _
      refine pm_e_sim pm_a50_9 rfl ?_
      show pm_E _ _ _ 10 [(0, .long _), (2, .long _), (4, .long _)] [.int _] _ _ _ _
      refine pm_e_ift pm_a50_10 rfl (pm_zl_gt (-1) (by decide +kernel) (by omega) (by decide +kernel)) ?_
      show pm_E _ _ _ 17 [(0, .long _), (2, .long _), (4, .long _)] [] _ _ _ _
      refine pm_e_sim pm_a50_17 rfl ?_
      refine pm_e_top (y := 0) (by decide +kernel) ?_
      show pm_E _ _ _ 18 [(0, .long _), (2, .long _), (4, .long _)] [.int 0] _ _ _ _
      refine pm_e_ret pm_a50_18 rfl rfl rfl rfl rfl rfl rfl rfl ?_
      show pm_E _ _ _ 13 [(0, .ref 18), (1, .int _)] [.int 0] _ _ _ _
      refine pm_e_ret pm_a61_13 rfl rfl rfl rfl rfl rfl rfl rfl ?_
      show pm_E _ _ _ 5 [(0, .ref 18), (1, .int _), (2, .int _)] [.int 0] _ _ _ _
      refine pm_e_ift pm_a64_5 rfl (by decide +kernel) ?_
      show pm_E _ _ _ 16 [(0, .ref 18), (1, .int _), (2, .int _)] [] _ _ _ _
      refine pm_e_sim pm_a64_16 rfl ?_
      refine pm_e_top (y := (-1)) (by decide +kernel) ?_
      show pm_E _ _ _ 17 [(0, .ref 18), (1, .int _), (2, .int _)] [.int (-1)] _ _ _ _
      refine pm_e_ret pm_a64_17 rfl rfl rfl rfl rfl rfl rfl rfl ?_
      show pm_E _ _ _ 369 [(3, .int 0), (2, .ref 18), (1, .ref 0), (0, .retAddr 0)] [.int (-1), .int (-1)] _ _ _ _
      refine pm_e_ict pm_a0_369 rfl (by decide +kernel) ?_
      show pm_E _ _ _ 779 [(3, .int 0), (2, .ref 18), (1, .ref 0), (0, .retAddr 0)] [] _ _ _ _
      refine pm_e_inc (y := 6) pm_a0_779 rfl (by decide +kernel) (by decide +kernel) rfl ?_
      show pm_E _ _ _ 782 [(3, .int 6), (2, .ref 18), (1, .ref 0), (0, .retAddr 0)] [] _ _ _ _
      refine pm_e_goto pm_a0_782 rfl ?_
      show pm_E _ _ _ 18 [(3, .int 6), (2, .ref 18), (1, .ref 0), (0, .retAddr 0)] [] _ _ _ _
      refine pm_e_sim pm_a0_18 rfl ?_
      show pm_E _ _ _ 19 [(3, .int 6), (2, .ref 18), (1, .ref 0), (0, .retAddr 0)] [.int 6] _ _ _ _
      refine pm_e_sim pm_a0_19 rfl ?_
      show pm_E _ _ _ 20 [(3, .int 6), (2, .ref 18), (1, .ref 0), (0, .retAddr 0)] [.retAddr 0, .int 6] _ _ _ _
      refine pm_e_rd pm_a0_20 rfl rfl rfl ?_
      dsimp only
      refine pm_e_top (y := 6) (by decide +kernel) ?_
      show pm_E _ _ _ 21 [(3, .int 6), (2, .ref 18), (1, .ref 0), (0, .retAddr 0)] [.int 6, .int 6] _ _ _ _
      refine pm_e_sim pm_a0_21 rfl ?_
      refine pm_e_top (y := 6) (by decide +kernel) ?_
      show pm_E _ _ _ 23 [(3, .int 6), (2, .ref 18), (1, .ref 0), (0, .retAddr 0)] [.int 6, .int 6, .int 6] _ _ _ _
      refine pm_e_sim pm_a0_23 rfl ?_
      refine pm_e_top (y := 0) (by decide +kernel) ?_
      show pm_E _ _ _ 24 [(3, .int 6), (2, .ref 18), (1, .ref 0), (0, .retAddr 0)] [.int 0, .int 6] _ _ _ _
      refine pm_e_ict pm_a0_24 rfl (by decide +kernel) ?_
      show pm_E _ _ _ 785 [(3, .int 6), (2, .ref 18), (1, .ref 0), (0, .retAddr 0)] [] _ _ _ _
      refine pm_e_sim pm_a0_785 rfl ?_
      refine pm_e_top (y := 1) (by decide +kernel) ?_
      show pm_E _ _ _ 786 [(3, .int 6), (2, .ref 18), (1, .ref 0), (0, .retAddr 0)] [.int 1] _ _ _ _
      refine pm_e_ret pm_a0_786 rfl rfl rfl rfl rfl rfl rfl rfl ?_
      exact hQ _ _ _ (by decide +kernel) (by decide +kernel)
    · refine pm_e_tsi (t := 341) pm_a0_33 rfl (by decide +kernel) ?_
      show pm_E _ _ _ 341 [(3, .int 0), (2, .ref 18), (1, .ref 0), (0, .retAddr 0)] [] _ _ _ _
      refine pm_e_sim pm_a0_341 rfl ?_
      show pm_E _ _ _ 342 [(3, .int 0), (2, .ref 18), (1, .ref 0), (0, .retAddr 0)] [.ref 0] _ _ _ _
      refine pm_e_sim pm_a0_342 rfl ?_
      show pm_E _ _ _ 343 [(3, .int 0), (2, .ref 18), (1, .ref 0), (0, .retAddr 0)] [.retAddr 0, .ref 0] _ _ _ _
      refine pm_e_sim pm_a0_343 rfl ?_
      show pm_E _ _ _ 344 [(3, .int 0), (2, .ref 18), (1, .ref 0), (0, .retAddr 0)] [.int 0, .retAddr 0, .ref 0] _ _ _ _
      refine pm_e_sim pm_a0_344 rfl ?_
      refine pm_e_top (y := 1) (by decide +kernel) ?_
      show pm_E _ _ _ 345 [(3, .int 0), (2, .ref 18), (1, .ref 0), (0, .retAddr 0)] [.int 1, .int 0, .retAddr 0, .ref 0] _ _ _ _
      refine pm_e_sim pm_a0_345 rfl ?_
      refine pm_e_top (y := 1) (by decide +kernel) ?_
      show pm_E _ _ _ 346 [(3, .int 0), (2, .ref 18), (1, .ref 0), (0, .retAddr 0)] [.int 1, .retAddr 0, .ref 0] _ _ _ _
      refine pm_e_sld (j := 1) pm_a0_346 (by decide +kernel) ?_
      show pm_E _ _ _ 347 [(3, .int 0), (2, .ref 18), (1, .ref 0), (0, .retAddr 0)] [.int _, .ref 0] _ _ _ _
      refine pm_e_sim pm_a0_347 rfl ?_
      show pm_E _ _ _ 348 [(3, .int 0), (2, .ref 18), (1, .ref 0), (0, .retAddr 0)] [.retAddr 0, .int _, .ref 0] _ _ _ _
      refine pm_e_sim pm_a0_348 rfl ?_
      show pm_E _ _ _ 349 [(3, .int 0), (2, .ref 18), (1, .ref 0), (0, .retAddr 0)] [.int 0, .retAddr 0, .int _, .ref 0] _ _ _ _
      refine pm_e_sim pm_a0_349 rfl ?_
      refine pm_e_top (y := 2) (by decide +kernel) ?_
      show pm_E _ _ _ 350 [(3, .int 0), (2, .ref 18), (1, .ref 0), (0, .retAddr 0)] [.int 2, .int 0, .retAddr 0, .int _, .ref 0] _ _ _ _
      refine pm_e_sim pm_a0_350 rfl ?_
      refine pm_e_top (y := 2) (by decide +kernel) ?_
      show pm_E _ _ _ 351 [(3, .int 0), (2, .ref 18), (1, .ref 0), (0, .retAddr 0)] [.int 2, .retAddr 0, .int _, .ref 0] _ _ _ _
      refine pm_e_sld (j := 2) pm_a0_351 (by decide +kernel) ?_
      show pm_E _ _ _ 352 [(3, .int 0), (2, .ref 18), (1, .ref 0), (0, .retAddr 0)] [.int _, .int _, .ref 0] _ _ _ _
      refine pm_e_call (T2 := pm_mm29) pm_a0_352 rfl rfl rfl rfl rfl rfl rfl rfl rfl ?_
      show pm_E _ _ _ 0 [(0, .ref 0), (1, .int _), (2, .int _)] [] _ _ _ _
      refine pm_e_sim pm_a29_0 rfl ?_
      show pm_E _ _ _ 1 [(0, .ref 0), (1, .int _), (2, .int _)] [.ref 0] _ _ _ _
      refine pm_e_sim pm_a29_1 rfl ?_
      show pm_E _ _ _ 2 [(0, .ref 0), (1, .int _), (2, .int _)] [.int _, .ref 0] _ _ _ _
      refine pm_e_call (T2 := pm_mm26) pm_a29_2 rfl rfl rfl rfl rfl rfl rfl rfl rfl ?_
      show pm_E _ _ _ 0 [(0, .ref 0), (1, .int _)] [] _ _ _ _
      refine pm_e_sim pm_a26_0 rfl ?_
      show pm_E _ _ _ 1 [(0, .ref 0), (1, .int _)] [.int _] _ _ _ _
      refine pm_e_iff pm_a26_1 rfl (pm_z_lt_f 0 (by decide +kernel) (by omega)) ?_
      show pm_E _ _ _ 4 [(0, .ref 0), (1, .int _)] [] _ _ _ _
      refine pm_e_sim pm_a26_4 rfl ?_
      show pm_E _ _ _ 5 [(0, .ref 0), (1, .int _)] [.int _] _ _ _ _
      refine pm_e_sim pm_a26_5 rfl ?_
      show pm_E _ _ _ 6 [(0, .ref 0), (1, .int _)] [.ref 0, .int _] _ _ _ _
      refine pm_e_rd pm_a26_6 rfl rfl rfl ?_
      show pm_E _ _ _ 9 [(0, .ref 0), (1, .int _)] [.int 0, .int _] _ _ _ _
      refine pm_e_ict pm_a26_9 rfl (pm_z_ge_t 0 (by decide +kernel) (by omega)) ?_
      show pm_E _ _ _ 30 [(0, .ref 0), (1, .int _)] [] _ _ _ _
      refine pm_e_sim pm_a26_30 rfl ?_
      show pm_E _ _ _ 31 [(0, .ref 0), (1, .int _)] [.null] _ _ _ _
      refine pm_e_ret pm_a26_31 rfl rfl rfl rfl rfl rfl rfl rfl ?_
      show pm_E _ _ _ 5 [(0, .ref 0), (1, .int _), (2, .int _)] [.null] _ _ _ _
      refine pm_e_sim pm_a29_5 rfl ?_
      show pm_E _ _ _ 6 [(3, .null), (0, .ref 0), (1, .int _), (2, .int _)] [] _ _ _ _
      refine pm_e_sim pm_a29_6 rfl ?_
      show pm_E _ _ _ 7 [(3, .null), (0, .ref 0), (1, .int _), (2, .int _)] [.ref 0] _ _ _ _
      refine pm_e_sim pm_a29_7 rfl ?_
      show pm_E _ _ _ 8 [(3, .null), (0, .ref 0), (1, .int _), (2, .int _)] [.int _, .ref 0] _ _ _ _
      refine pm_e_call (T2 := pm_mm26) pm_a29_8 rfl rfl rfl rfl rfl rfl rfl rfl rfl ?_
      show pm_E _ _ _ 0 [(0, .ref 0), (1, .int _)] [] _ _ _ _
      refine pm_e_sim pm_a26_0 rfl ?_
      show pm_E _ _ _ 1 [(0, .ref 0), (1, .int _)] [.int _] _ _ _ _
      refine pm_e_iff pm_a26_1 rfl (pm_z_lt_f 0 (by decide +kernel) (by omega)) ?_
      show pm_E _ _ _ 4 [(0, .ref 0), (1, .int _)] [] _ _ _ _
      refine pm_e_sim pm_a26_4 rfl ?_
      show pm_E _ _ _ 5 [(0, .ref 0), (1, .int _)] [.int _] _ _ _ _
      refine pm_e_sim pm_a26_5 rfl ?_
      show pm_E _ _ _ 6 [(0, .ref 0), (1, .int _)] [.ref 0, .int _] _ _ _ _
      refine pm_e_rd pm_a26_6 rfl rfl rfl ?_
      show pm_E _ _ _ 9 [(0, .ref 0), (1, .int _)] [.int 0, .int _] _ _ _ _
      refine pm_e_ict pm_a26_9 rfl (pm_z_ge_t 0 (by decide +kernel) (by omega)) ?_
      show pm_E _ _ _ 30 [(0, .ref 0), (1, .int _)] [] _ _ _ _
      refine pm_e_sim pm_a26_30 rfl ?_
      show pm_E _ _ _ 31 [(0, .ref 0), (1, .int _)] [.null] _ _ _ _
      refine pm_e_ret pm_a26_31 rfl rfl rfl rfl rfl rfl rfl rfl ?_
      show pm_E _ _ _ 11 [(3, .null), (0, .ref 0), (1, .int _), (2, .int _)] [.null] _ _ _ _
      refine pm_e_sim pm_a29_11 rfl ?_
      show pm_E _ _ _ 13 [(4, .null), (3, .null), (0, .ref 0), (1, .int _), (2, .int _)] [] _ _ _ _
      refine pm_e_sim pm_a29_13 rfl ?_
      show pm_E _ _ _ 14 [(4, .null), (3, .null), (0, .ref 0), (1, .int _), (2, .int _)] [.null] _ _ _ _
      refine pm_e_jmp (pc2 := 22) pm_a29_14 rfl rfl ?_
      show pm_E _ _ _ 22 [(4, .null), (3, .null), (0, .ref 0), (1, .int _), (2, .int _)] [] _ _ _ _
      refine pm_e_sim pm_a29_22 rfl ?_
      refine pm_e_top (y := (-1)) (by decide +kernel) ?_
      show pm_E _ _ _ 23 [(4, .null), (3, .null), (0, .ref 0), (1, .int _), (2, .int _)] [.int (-1)] _ _ _ _
      refine pm_e_ret pm_a29_23 rfl rfl rfl rfl rfl rfl rfl rfl ?_
      show pm_E _ _ _ 355 [(3, .int 0), (2, .ref 18), (1, .ref 0), (0, .retAddr 0)] [.int (-1)] _ _ _ _
      refine pm_e_sim pm_a0_355 rfl ?_
      show pm_E _ _ _ 356 [(3, .int 0), (2, .ref 18), (1, .ref 0), (0, .retAddr 0)] [.ref 18, .int (-1)] _ _ _ _
      refine pm_e_sim pm_a0_356 rfl ?_
      show pm_E _ _ _ 357 [(3, .int 0), (2, .ref 18), (1, .ref 0), (0, .retAddr 0)] [.retAddr 0, .ref 18, .int (-1)] _ _ _ _
      refine pm_e_sim pm_a0_357 rfl ?_
      show pm_E _ _ _ 358 [(3, .int 0), (2, .ref 18), (1, .ref 0), (0, .retAddr 0)] [.int 0, .retAddr 0, .ref 18, .int (-1)] _ _ _ _
      refine pm_e_sim pm_a0_358 rfl ?_
      refine pm_e_top (y := 1) (by decide +kernel) ?_
      show pm_E _ _ _ 359 [(3, .int 0), (2, .ref 18), (1, .ref 0), (0, .retAddr 0)] [.int 1, .int 0, .retAddr 0, .ref 18, .int (-1)] _ _ _ _
      refine pm_e_sim pm_a0_359 rfl ?_
      refine pm_e_top (y := 1) (by decide +kernel) ?_
      show pm_E _ _ _ 360 [(3, .int 0), (2, .ref 18), (1, .ref 0), (0, .retAddr 0)] [.int 1, .retAddr 0, .ref 18, .int (-1)] _ _ _ _
      refine pm_e_sld (j := 1) pm_a0_360 (by decide +kernel) ?_
      show pm_E _ _ _ 361 [(3, .int 0), (2, .ref 18), (1, .ref 0), (0, .retAddr 0)] [.int _, .ref 18, .int (-1)] _ _ _ _
      refine pm_e_sim pm_a0_361 rfl ?_
      show pm_E _ _ _ 362 [(3, .int 0), (2, .ref 18), (1, .ref 0), (0, .retAddr 0)] [.retAddr 0, .int _, .ref 18, .int (-1)] _ _ _ _
      refine pm_e_sim pm_a0_362 rfl ?_
      show pm_E _ _ _ 363 [(3, .int 0), (2, .ref 18), (1, .ref 0), (0, .retAddr 0)] [.int 0, .retAddr 0, .int _, .ref 18, .int (-1)] _ _ _ _
      refine pm_e_sim pm_a0_363 rfl ?_
      refine pm_e_top (y := 2) (by decide +kernel) ?_
      show pm_E _ _ _ 364 [(3, .int 0), (2, .ref 18), (1, .ref 0), (0, .retAddr 0)] [.int 2, .int 0, .retAddr 0, .int _, .ref 18, .int (-1)] _ _ _ _
      refine pm_e_sim pm_a0_364 rfl ?_
      refine pm_e_top (y := 2) (by decide +kernel) ?_
      show pm_E _ _ _ 365 [(3, .int 0), (2, .ref 18), (1, .ref 0), (0, .retAddr 0)] [.int 2, .retAddr 0, .int _, .ref 18, .int (-1)] _ _ _ _
      refine pm_e_sld (j := 2) pm_a0_365 (by decide +kernel) ?_
      show pm_E _ _ _ 366 [(3, .int 0), (2, .ref 18), (1, .ref 0), (0, .retAddr 0)] [.int _, .int _, .ref 18, .int (-1)] _ _ _ _
      refine pm_e_call (T2 := pm_mm64) pm_a0_366 rfl rfl rfl rfl rfl rfl rfl rfl rfl ?_
      show pm_E _ _ _ 0 [(0, .ref 18), (1, .int _), (2, .int _)] [] _ _ _ _
      refine pm_e_sim pm_a64_0 rfl ?_
      show pm_E _ _ _ 1 [(0, .ref 18), (1, .int _), (2, .int _)] [.ref 18] _ _ _ _
      refine pm_e_sim pm_a64_1 rfl ?_
      show pm_E _ _ _ 2 [(0, .ref 18), (1, .int _), (2, .int _)] [.int _, .ref 18] _ _ _ _
      refine pm_e_call (T2 := pm_mm61) pm_a64_2 rfl rfl rfl rfl rfl rfl rfl rfl rfl ?_
      show pm_E _ _ _ 0 [(0, .ref 18), (1, .int _)] [] _ _ _ _
      refine pm_e_sim pm_a61_0 rfl ?_
      show pm_E _ _ _ 1 [(0, .ref 18), (1, .int _)] [.int _] _ _ _ _
      refine pm_e_sim pm_a61_1 rfl ?_
      show pm_E _ _ _ 2 [(0, .ref 18), (1, .int _)] [.long _] _ _ _ _
      refine pm_e_sim pm_a61_2 rfl ?_
      show pm_E _ _ _ 3 [(0, .ref 18), (1, .int _)] [.long _, .long _] _ _ _ _
      refine pm_e_sim pm_a61_3 rfl ?_
      show pm_E _ _ _ 4 [(0, .ref 18), (1, .int _)] [.ref 18, .long _, .long _] _ _ _ _
      refine pm_e_rd pm_a61_4 rfl rfl rfl ?_
      show pm_E _ _ _ 7 [(0, .ref 18), (1, .int _)] [.int 0, .long _, .long _] _ _ _ _
      refine pm_e_sim pm_a61_7 rfl ?_
      refine pm_e_top (y := 1) (by decide +kernel) ?_
      show pm_E _ _ _ 8 [(0, .ref 18), (1, .int _)] [.int 1, .int 0, .long _, .long _] _ _ _ _
      refine pm_e_sim pm_a61_8 rfl ?_
      refine pm_e_top (y := (-1)) (by decide +kernel) ?_
      show pm_E _ _ _ 9 [(0, .ref 18), (1, .int _)] [.int (-1), .long _, .long _] _ _ _ _
      refine pm_e_sim pm_a61_9 rfl ?_
      show pm_E _ _ _ 10 [(0, .ref 18), (1, .int _)] [.long _, .long _, .long _] _ _ _ _
      refine pm_e_call (T2 := pm_mm50) pm_a61_10 rfl rfl rfl rfl rfl rfl rfl rfl rfl ?_
      show pm_E _ _ _ 0 [(0, .long _), (2, .long _), (4, .long _)] [] _ _ _ _
      refine pm_e_sim pm_a50_0 rfl ?_
      show pm_E _ _ _ 1 [(0, .long _), (2, .long _), (4, .long _)] [.long _] _ _ _ _
      refine pm_e_sim pm_a50_1 rfl ?_
      show pm_E _ _ _ 2 [(0, .long _), (2, .long _), (4, .long _)] [.long _, .long _] _ _ _ _
      refine pm_e_sim pm_a50_2 rfl ?_
      show pm_E _ _ _ 3 [(0, .long _), (2, .long _), (4, .long _)] [.int _] _ _ _ _
      refine pm_e_iff pm_a50_3 rfl (pm_zl_eq 0 (by decide +kernel) (by omega) (by decide +kernel)) ?_
      show pm_E _ _ _ 6 [(0, .long _), (2, .long _), (4, .long _)] [] _ _ _ _
      refine pm_e_sim pm_a50_6 rfl ?_
      show pm_E _ _ _ 7 [(0, .long _), (2, .long _), (4, .long _)] [.long _] _ _ _ _
      refine pm_e_sim pm_a50_7 rfl ?_
      show pm_E _ _ _ 9 [(0, .long _), (2, .long _), (4, .long _)] [.long _, .long _] _ _ _ _
      refine pm_e_sim pm_a50_9 rfl ?_
      show pm_E _ _ _ 10 [(0, .long _), (2, .long _), (4, .long _)] [.int _] _ _ _ _
      refine pm_e_ift pm_a50_10 rfl (pm_zl_gt (-1) (by decide +kernel) (by omega) (by decide +kernel)) ?_
      show pm_E _ _ _ 17 [(0, .long _), (2, .long _), (4, .long _)] [] _ _ _ _
      refine pm_e_sim pm_a50_17 rfl ?_
      refine pm_e_top (y := 0) (by decide +kernel) ?_
      show pm_E _ _ _ 18 [(0, .long _), (2, .long _), (4, .long _)] [.int 0] _ _ _ _
      refine pm_e_ret pm_a50_18 rfl rfl rfl rfl rfl rfl rfl rfl ?_
      show pm_E _ _ _ 13 [(0, .ref 18), (1, .int _)] [.int 0] _ _ _ _
      refine pm_e_ret pm_a61_13 rfl rfl rfl rfl rfl rfl rfl rfl ?_
      show pm_E _ _ _ 5 [(0, .ref 18), (1, .int _), (2, .int _)] [.int 0] _ _ _ _
      refine pm_e_ift pm_a64_5 rfl (by decide +kernel) ?_
      show pm_E _ _ _ 16 [(0, .ref 18), (1, .int _), (2, .int _)] [] _ _ _ _
      refine pm_e_sim pm_a64_16 rfl ?_
      refine pm_e_top (y := (-1)) (by decide +kernel) ?_
      show pm_E _ _ _ 17 [(0, .ref 18), (1, .int _), (2, .int _)] [.int (-1)] _ _ _ _
      refine pm_e_ret pm_a64_17 rfl rfl rfl rfl rfl rfl rfl rfl ?_
      show pm_E _ _ _ 369 [(3, .int 0), (2, .ref 18), (1, .ref 0), (0, .retAddr 0)] [.int (-1), .int (-1)] _ _ _ _
      refine pm_e_ict pm_a0_369 rfl (by decide +kernel) ?_
      show pm_E _ _ _ 779 [(3, .int 0), (2, .ref 18), (1, .ref 0), (0, .retAddr 0)] [] _ _ _ _
      refine pm_e_inc (y := 6) pm_a0_779 rfl (by decide +kernel) (by decide +kernel) rfl ?_
      show pm_E _ _ _ 782 [(3, .int 6), (2, .ref 18), (1, .ref 0), (0, .retAddr 0)] [] _ _ _ _
      refine pm_e_goto pm_a0_782 rfl ?_
      show pm_E _ _ _ 18 [(3, .int 6), (2, .ref 18), (1, .ref 0), (0, .retAddr 0)] [] _ _ _ _
      refine pm_e_sim pm_a0_18 rfl ?_
      show pm_E _ _ _ 19 [(3, .int 6), (2, .ref 18), (1, .ref 0), (0, .retAddr 0)] [.int 6] _ _ _ _
      refine pm_e_sim pm_a0_19 rfl ?_
      show pm_E _ _ _ 20 [(3, .int 6), (2, .ref 18), (1, .ref 0), (0, .retAddr 0)] [.retAddr 0, .int 6] _ _ _ _
      refine pm_e_rd pm_a0_20 rfl rfl rfl ?_
      dsimp only
      refine pm_e_top (y := 6) (by decide +kernel) ?_
      show pm_E _ _ _ 21 [(3, .int 6), (2, .ref 18), (1, .ref 0), (0, .retAddr 0)] [.int 6, .int 6] _ _ _ _
      refine pm_e_sim pm_a0_21 rfl ?_
      refine pm_e_top (y := 6) (by decide +kernel) ?_
      show pm_E _ _ _ 23 [(3, .int 6), (2, .ref 18), (1, .ref 0), (0, .retAddr 0)] [.int 6, .int 6, .int 6] _ _ _ _
      refine pm_e_sim pm_a0_23 rfl ?_
      refine pm_e_top (y := 0) (by decide +kernel) ?_
      show pm_E _ _ _ 24 [(3, .int 6), (2, .ref 18), (1, .ref 0), (0, .retAddr 0)] [.int 0, .int 6] _ _ _ _
      refine pm_e_ict pm_a0_24 rfl (by decide +kernel) ?_
      show pm_E _ _ _ 785 [(3, .int 6), (2, .ref 18), (1, .ref 0), (0, .retAddr 0)] [] _ _ _ _
      refine pm_e_sim pm_a0_785 rfl ?_
      refine pm_e_top (y := 1) (by decide +kernel) ?_
      show pm_E _ _ _ 786 [(3, .int 6), (2, .ref 18), (1, .ref 0), (0, .retAddr 0)] [.int 1] _ _ _ _
      refine pm_e_ret pm_a0_786 rfl rfl rfl rfl rfl rfl rfl rfl ?_
      exact hQ _ _ _ (by decide +kernel) (by decide +kernel)
  · rcases (show (xs 2).toInt < 0 ∨ 0 ≤ (xs 2).toInt by omega) with h2 | h2
    · refine pm_e_tsi (t := 341) pm_a0_33 rfl (by decide +kernel) ?_
      show pm_E _ _ _ 341 [(3, .int 0), (2, .ref 18), (1, .ref 0), (0, .retAddr 0)] [] _ _ _ _
      refine pm_e_sim pm_a0_341 rfl ?_
      show pm_E _ _ _ 342 [(3, .int 0), (2, .ref 18), (1, .ref 0), (0, .retAddr 0)] [.ref 0] _ _ _ _
      refine pm_e_sim pm_a0_342 rfl ?_
      show pm_E _ _ _ 343 [(3, .int 0), (2, .ref 18), (1, .ref 0), (0, .retAddr 0)] [.retAddr 0, .ref 0] _ _ _ _
      refine pm_e_sim pm_a0_343 rfl ?_
      show pm_E _ _ _ 344 [(3, .int 0), (2, .ref 18), (1, .ref 0), (0, .retAddr 0)] [.int 0, .retAddr 0, .ref 0] _ _ _ _
      refine pm_e_sim pm_a0_344 rfl ?_
      refine pm_e_top (y := 1) (by decide +kernel) ?_
      show pm_E _ _ _ 345 [(3, .int 0), (2, .ref 18), (1, .ref 0), (0, .retAddr 0)] [.int 1, .int 0, .retAddr 0, .ref 0] _ _ _ _
      refine pm_e_sim pm_a0_345 rfl ?_
      refine pm_e_top (y := 1) (by decide +kernel) ?_
      show pm_E _ _ _ 346 [(3, .int 0), (2, .ref 18), (1, .ref 0), (0, .retAddr 0)] [.int 1, .retAddr 0, .ref 0] _ _ _ _
      refine pm_e_sld (j := 1) pm_a0_346 (by decide +kernel) ?_
      show pm_E _ _ _ 347 [(3, .int 0), (2, .ref 18), (1, .ref 0), (0, .retAddr 0)] [.int _, .ref 0] _ _ _ _
      refine pm_e_sim pm_a0_347 rfl ?_
      show pm_E _ _ _ 348 [(3, .int 0), (2, .ref 18), (1, .ref 0), (0, .retAddr 0)] [.retAddr 0, .int _, .ref 0] _ _ _ _
      refine pm_e_sim pm_a0_348 rfl ?_
      show pm_E _ _ _ 349 [(3, .int 0), (2, .ref 18), (1, .ref 0), (0, .retAddr 0)] [.int 0, .retAddr 0, .int _, .ref 0] _ _ _ _
      refine pm_e_sim pm_a0_349 rfl ?_
      refine pm_e_top (y := 2) (by decide +kernel) ?_
      show pm_E _ _ _ 350 [(3, .int 0), (2, .ref 18), (1, .ref 0), (0, .retAddr 0)] [.int 2, .int 0, .retAddr 0, .int _, .ref 0] _ _ _ _
      refine pm_e_sim pm_a0_350 rfl ?_
      refine pm_e_top (y := 2) (by decide +kernel) ?_
      show pm_E _ _ _ 351 [(3, .int 0), (2, .ref 18), (1, .ref 0), (0, .retAddr 0)] [.int 2, .retAddr 0, .int _, .ref 0] _ _ _ _
      refine pm_e_sld (j := 2) pm_a0_351 (by decide +kernel) ?_
      show pm_E _ _ _ 352 [(3, .int 0), (2, .ref 18), (1, .ref 0), (0, .retAddr 0)] [.int _, .int _, .ref 0] _ _ _ _
      refine pm_e_call (T2 := pm_mm29) pm_a0_352 rfl rfl rfl rfl rfl rfl rfl rfl rfl ?_
      show pm_E _ _ _ 0 [(0, .ref 0), (1, .int _), (2, .int _)] [] _ _ _ _
      refine pm_e_sim pm_a29_0 rfl ?_
      show pm_E _ _ _ 1 [(0, .ref 0), (1, .int _), (2, .int _)] [.ref 0] _ _ _ _
      refine pm_e_sim pm_a29_1 rfl ?_
      show pm_E _ _ _ 2 [(0, .ref 0), (1, .int _), (2, .int _)] [.int _, .ref 0] _ _ _ _
      refine pm_e_call (T2 := pm_mm26) pm_a29_2 rfl rfl rfl rfl rfl rfl rfl rfl rfl ?_
      show pm_E _ _ _ 0 [(0, .ref 0), (1, .int _)] [] _ _ _ _
      refine pm_e_sim pm_a26_0 rfl ?_
      show pm_E _ _ _ 1 [(0, .ref 0), (1, .int _)] [.int _] _ _ _ _
      refine pm_e_iff pm_a26_1 rfl (pm_z_lt_f 0 (by decide +kernel) (by omega)) ?_
      show pm_E _ _ _ 4 [(0, .ref 0), (1, .int _)] [] _ _ _ _
      refine pm_e_sim pm_a26_4 rfl ?_
      show pm_E _ _ _ 5 [(0, .ref 0), (1, .int _)] [.int _] _ _ _ _
      refine pm_e_sim pm_a26_5 rfl ?_
      show pm_E _ _ _ 6 [(0, .ref 0), (1, .int _)] [.ref 0, .int _] _ _ _ _
      refine pm_e_rd pm_a26_6 rfl rfl rfl ?_
      show pm_E _ _ _ 9 [(0, .ref 0), (1, .int _)] [.int 0, .int _] _ _ _ _
      refine pm_e_ict pm_a26_9 rfl (pm_z_ge_t 0 (by decide +kernel) (by omega)) ?_
      show pm_E _ _ _ 30 [(0, .ref 0), (1, .int _)] [] _ _ _ _
      refine pm_e_sim pm_a26_30 rfl ?_
      show pm_E _ _ _ 31 [(0, .ref 0), (1, .int _)] [.null] _ _ _ _
      refine pm_e_ret pm_a26_31 rfl rfl rfl rfl rfl rfl rfl rfl ?_
      show pm_E _ _ _ 5 [(0, .ref 0), (1, .int _), (2, .int _)] [.null] _ _ _ _
      refine pm_e_sim pm_a29_5 rfl ?_
      show pm_E _ _ _ 6 [(3, .null), (0, .ref 0), (1, .int _), (2, .int _)] [] _ _ _ _
      refine pm_e_sim pm_a29_6 rfl ?_
      show pm_E _ _ _ 7 [(3, .null), (0, .ref 0), (1, .int _), (2, .int _)] [.ref 0] _ _ _ _
      refine pm_e_sim pm_a29_7 rfl ?_
      show pm_E _ _ _ 8 [(3, .null), (0, .ref 0), (1, .int _), (2, .int _)] [.int _, .ref 0] _ _ _ _
      refine pm_e_call (T2 := pm_mm26) pm_a29_8 rfl rfl rfl rfl rfl rfl rfl rfl rfl ?_
      show pm_E _ _ _ 0 [(0, .ref 0), (1, .int _)] [] _ _ _ _
      refine pm_e_sim pm_a26_0 rfl ?_
      show pm_E _ _ _ 1 [(0, .ref 0), (1, .int _)] [.int _] _ _ _ _
      refine pm_e_ift pm_a26_1 rfl (pm_z_lt_t 0 (by decide +kernel) (by omega)) ?_
      show pm_E _ _ _ 30 [(0, .ref 0), (1, .int _)] [] _ _ _ _
      refine pm_e_sim pm_a26_30 rfl ?_
      show pm_E _ _ _ 31 [(0, .ref 0), (1, .int _)] [.null] _ _ _ _
      refine pm_e_ret pm_a26_31 rfl rfl rfl rfl rfl rfl rfl rfl ?_
      show pm_E _ _ _ 11 [(3, .null), (0, .ref 0), (1, .int _), (2, .int _)] [.null] _ _ _ _
      refine pm_e_sim pm_a29_11 rfl ?_
      show pm_E _ _ _ 13 [(4, .null), (3, .null), (0, .ref 0), (1, .int _), (2, .int _)] [] _ _ _ _
      refine pm_e_sim pm_a29_13 rfl ?_
      show pm_E _ _ _ 14 [(4, .null), (3, .null), (0, .ref 0), (1, .int _), (2, .int _)] [.null] _ _ _ _
      refine pm_e_jmp (pc2 := 22) pm_a29_14 rfl rfl ?_
      show pm_E _ _ _ 22 [(4, .null), (3, .null), (0, .ref 0), (1, .int _), (2, .int _)] [] _ _ _ _
      refine pm_e_sim pm_a29_22 rfl ?_
      refine pm_e_top (y := (-1)) (by decide +kernel) ?_
      show pm_E _ _ _ 23 [(4, .null), (3, .null), (0, .ref 0), (1, .int _), (2, .int _)] [.int (-1)] _ _ _ _
      refine pm_e_ret pm_a29_23 rfl rfl rfl rfl rfl rfl rfl rfl ?_
      show pm_E _ _ _ 355 [(3, .int 0), (2, .ref 18), (1, .ref 0), (0, .retAddr 0)] [.int (-1)] _ _ _ _
      refine pm_e_sim pm_a0_355 rfl ?_
      show pm_E _ _ _ 356 [(3, .int 0), (2, .ref 18), (1, .ref 0), (0, .retAddr 0)] [.ref 18, .int (-1)] _ _ _ _
      refine pm_e_sim pm_a0_356 rfl ?_
      show pm_E _ _ _ 357 [(3, .int 0), (2, .ref 18), (1, .ref 0), (0, .retAddr 0)] [.retAddr 0, .ref 18, .int (-1)] _ _ _ _
      refine pm_e_sim pm_a0_357 rfl ?_
      show pm_E _ _ _ 358 [(3, .int 0), (2, .ref 18), (1, .ref 0), (0, .retAddr 0)] [.int 0, .retAddr 0, .ref 18, .int (-1)] _ _ _ _
      refine pm_e_sim pm_a0_358 rfl ?_
      refine pm_e_top (y := 1) (by decide +kernel) ?_
      show pm_E _ _ _ 359 [(3, .int 0), (2, .ref 18), (1, .ref 0), (0, .retAddr 0)] [.int 1, .int 0, .retAddr 0, .ref 18, .int (-1)] _ _ _ _
      refine pm_e_sim pm_a0_359 rfl ?_
      refine pm_e_top (y := 1) (by decide +kernel) ?_
      show pm_E _ _ _ 360 [(3, .int 0), (2, .ref 18), (1, .ref 0), (0, .retAddr 0)] [.int 1, .retAddr 0, .ref 18, .int (-1)] _ _ _ _
      refine pm_e_sld (j := 1) pm_a0_360 (by decide +kernel) ?_
      show pm_E _ _ _ 361 [(3, .int 0), (2, .ref 18), (1, .ref 0), (0, .retAddr 0)] [.int _, .ref 18, .int (-1)] _ _ _ _
      refine pm_e_sim pm_a0_361 rfl ?_
      show pm_E _ _ _ 362 [(3, .int 0), (2, .ref 18), (1, .ref 0), (0, .retAddr 0)] [.retAddr 0, .int _, .ref 18, .int (-1)] _ _ _ _
      refine pm_e_sim pm_a0_362 rfl ?_
      show pm_E _ _ _ 363 [(3, .int 0), (2, .ref 18), (1, .ref 0), (0, .retAddr 0)] [.int 0, .retAddr 0, .int _, .ref 18, .int (-1)] _ _ _ _
      refine pm_e_sim pm_a0_363 rfl ?_
      refine pm_e_top (y := 2) (by decide +kernel) ?_
      show pm_E _ _ _ 364 [(3, .int 0), (2, .ref 18), (1, .ref 0), (0, .retAddr 0)] [.int 2, .int 0, .retAddr 0, .int _, .ref 18, .int (-1)] _ _ _ _
      refine pm_e_sim pm_a0_364 rfl ?_
      refine pm_e_top (y := 2) (by decide +kernel) ?_
      show pm_E _ _ _ 365 [(3, .int 0), (2, .ref 18), (1, .ref 0), (0, .retAddr 0)] [.int 2, .retAddr 0, .int _, .ref 18, .int (-1)] _ _ _ _
      refine pm_e_sld (j := 2) pm_a0_365 (by decide +kernel) ?_
      show pm_E _ _ _ 366 [(3, .int 0), (2, .ref 18), (1, .ref 0), (0, .retAddr 0)] [.int _, .int _, .ref 18, .int (-1)] _ _ _ _
      refine pm_e_call (T2 := pm_mm64) pm_a0_366 rfl rfl rfl rfl rfl rfl rfl rfl rfl ?_
      show pm_E _ _ _ 0 [(0, .ref 18), (1, .int _), (2, .int _)] [] _ _ _ _
      refine pm_e_sim pm_a64_0 rfl ?_
      show pm_E _ _ _ 1 [(0, .ref 18), (1, .int _), (2, .int _)] [.ref 18] _ _ _ _
      refine pm_e_sim pm_a64_1 rfl ?_
      show pm_E _ _ _ 2 [(0, .ref 18), (1, .int _), (2, .int _)] [.int _, .ref 18] _ _ _ _
      refine pm_e_call (T2 := pm_mm61) pm_a64_2 rfl rfl rfl rfl rfl rfl rfl rfl rfl ?_
      show pm_E _ _ _ 0 [(0, .ref 18), (1, .int _)] [] _ _ _ _
      refine pm_e_sim pm_a61_0 rfl ?_
      show pm_E _ _ _ 1 [(0, .ref 18), (1, .int _)] [.int _] _ _ _ _
      refine pm_e_sim pm_a61_1 rfl ?_
      show pm_E _ _ _ 2 [(0, .ref 18), (1, .int _)] [.long _] _ _ _ _
      refine pm_e_sim pm_a61_2 rfl ?_
      show pm_E _ _ _ 3 [(0, .ref 18), (1, .int _)] [.long _, .long _] _ _ _ _
      refine pm_e_sim pm_a61_3 rfl ?_
      show pm_E _ _ _ 4 [(0, .ref 18), (1, .int _)] [.ref 18, .long _, .long _] _ _ _ _
      refine pm_e_rd pm_a61_4 rfl rfl rfl ?_
      show pm_E _ _ _ 7 [(0, .ref 18), (1, .int _)] [.int 0, .long _, .long _] _ _ _ _
      refine pm_e_sim pm_a61_7 rfl ?_
      refine pm_e_top (y := 1) (by decide +kernel) ?_
      show pm_E _ _ _ 8 [(0, .ref 18), (1, .int _)] [.int 1, .int 0, .long _, .long _] _ _ _ _
      refine pm_e_sim pm_a61_8 rfl ?_
      refine pm_e_top (y := (-1)) (by decide +kernel) ?_
      show pm_E _ _ _ 9 [(0, .ref 18), (1, .int _)] [.int (-1), .long _, .long _] _ _ _ _
      refine pm_e_sim pm_a61_9 rfl ?_
      show pm_E _ _ _ 10 [(0, .ref 18), (1, .int _)] [.long _, .long _, .long _] _ _ _ _
      refine pm_e_call (T2 := pm_mm50) pm_a61_10 rfl rfl rfl rfl rfl rfl rfl rfl rfl ?_
      show pm_E _ _ _ 0 [(0, .long _), (2, .long _), (4, .long _)] [] _ _ _ _
      refine pm_e_sim pm_a50_0 rfl ?_
      show pm_E _ _ _ 1 [(0, .long _), (2, .long _), (4, .long _)] [.long _] _ _ _ _
      refine pm_e_sim pm_a50_1 rfl ?_
      show pm_E _ _ _ 2 [(0, .long _), (2, .long _), (4, .long _)] [.long _, .long _] _ _ _ _
      refine pm_e_sim pm_a50_2 rfl ?_
      show pm_E _ _ _ 3 [(0, .long _), (2, .long _), (4, .long _)] [.int _] _ _ _ _
      refine pm_e_iff pm_a50_3 rfl (pm_zl_gt 0 (by decide +kernel) (by omega) (by decide +kernel)) ?_
      show pm_E _ _ _ 6 [(0, .long _), (2, .long _), (4, .long _)] [] _ _ _ _
      refine pm_e_sim pm_a50_6 rfl ?_
      show pm_E _ _ _ 7 [(0, .long _), (2, .long _), (4, .long _)] [.long _] _ _ _ _
      refine pm_e_sim pm_a50_7 rfl ?_
      show pm_E _ _ _ 9 [(0, .long _), (2, .long _), (4, .long _)] [.long _, .long _] _ _ _ _
      refine pm_e_sim pm_a50_9 rfl ?_
      show pm_E _ _ _ 10 [(0, .long _), (2, .long _), (4, .long _)] [.int _] _ _ _ _
      refine pm_e_ift pm_a50_10 rfl (pm_zl_gt (-1) (by decide +kernel) (by omega) (by decide +kernel)) ?_
      show pm_E _ _ _ 17 [(0, .long _), (2, .long _), (4, .long _)] [] _ _ _ _
      refine pm_e_sim pm_a50_17 rfl ?_
      refine pm_e_top (y := 0) (by decide +kernel) ?_
      show pm_E _ _ _ 18 [(0, .long _), (2, .long _), (4, .long _)] [.int 0] _ _ _ _
      refine pm_e_ret pm_a50_18 rfl rfl rfl rfl rfl rfl rfl rfl ?_
      show pm_E _ _ _ 13 [(0, .ref 18), (1, .int _)] [.int 0] _ _ _ _
      refine pm_e_ret pm_a61_13 rfl rfl rfl rfl rfl rfl rfl rfl ?_
      show pm_E _ _ _ 5 [(0, .ref 18), (1, .int _), (2, .int _)] [.int 0] _ _ _ _
      refine pm_e_ift pm_a64_5 rfl (by decide +kernel) ?_
      show pm_E _ _ _ 16 [(0, .ref 18), (1, .int _), (2, .int _)] [] _ _ _ _
      refine pm_e_sim pm_a64_16 rfl ?_
      refine pm_e_top (y := (-1)) (by decide +kernel) ?_
      show pm_E _ _ _ 17 [(0, .ref 18), (1, .int _), (2, .int _)] [.int (-1)] _ _ _ _
      refine pm_e_ret pm_a64_17 rfl rfl rfl rfl rfl rfl rfl rfl ?_
      show pm_E _ _ _ 369 [(3, .int 0), (2, .ref 18), (1, .ref 0), (0, .retAddr 0)] [.int (-1), .int (-1)] _ _ _ _
      refine pm_e_ict pm_a0_369 rfl (by decide +kernel) ?_
      show pm_E _ _ _ 779 [(3, .int 0), (2, .ref 18), (1, .ref 0), (0, .retAddr 0)] [] _ _ _ _
      refine pm_e_inc (y := 6) pm_a0_779 rfl (by decide +kernel) (by decide +kernel) rfl ?_
      show pm_E _ _ _ 782 [(3, .int 6), (2, .ref 18), (1, .ref 0), (0, .retAddr 0)] [] _ _ _ _
      refine pm_e_goto pm_a0_782 rfl ?_
      show pm_E _ _ _ 18 [(3, .int 6), (2, .ref 18), (1, .ref 0), (0, .retAddr 0)] [] _ _ _ _
      refine pm_e_sim pm_a0_18 rfl ?_
      show pm_E _ _ _ 19 [(3, .int 6), (2, .ref 18), (1, .ref 0), (0, .retAddr 0)] [.int 6] _ _ _ _
      refine pm_e_sim pm_a0_19 rfl ?_
      show pm_E _ _ _ 20 [(3, .int 6), (2, .ref 18), (1, .ref 0), (0, .retAddr 0)] [.retAddr 0, .int 6] _ _ _ _
      refine pm_e_rd pm_a0_20 rfl rfl rfl ?_
      dsimp only
      refine pm_e_top (y := 6) (by decide +kernel) ?_
      show pm_E _ _ _ 21 [(3, .int 6), (2, .ref 18), (1, .ref 0), (0, .retAddr 0)] [.int 6, .int 6] _ _ _ _
      refine pm_e_sim pm_a0_21 rfl ?_
      refine pm_e_top (y := 6) (by decide +kernel) ?_
      show pm_E _ _ _ 23 [(3, .int 6), (2, .ref 18), (1, .ref 0), (0, .retAddr 0)] [.int 6, .int 6, .int 6] _ _ _ _
      refine pm_e_sim pm_a0_23 rfl ?_
      refine pm_e_top (y := 0) (by decide +kernel) ?_
      show pm_E _ _ _ 24 [(3, .int 6), (2, .ref 18), (1, .ref 0), (0, .retAddr 0)] [.int 0, .int 6] _ _ _ _
      refine pm_e_ict pm_a0_24 rfl (by decide +kernel) ?_
      show pm_E _ _ _ 785 [(3, .int 6), (2, .ref 18), (1, .ref 0), (0, .retAddr 0)] [] _ _ _ _
      refine pm_e_sim pm_a0_785 rfl ?_
      refine pm_e_top (y := 1) (by decide +kernel) ?_
      show pm_E _ _ _ 786 [(3, .int 6), (2, .ref 18), (1, .ref 0), (0, .retAddr 0)] [.int 1] _ _ _ _
      refine pm_e_ret pm_a0_786 rfl rfl rfl rfl rfl rfl rfl rfl ?_
      exact hQ _ _ _ (by decide +kernel) (by decide +kernel)
    · refine pm_e_tsi (t := 341) pm_a0_33 rfl (by decide +kernel) ?_
      show pm_E _ _ _ 341 [(3, .int 0), (2, .ref 18), (1, .ref 0), (0, .retAddr 0)] [] _ _ _ _
      refine pm_e_sim pm_a0_341 rfl ?_
      show pm_E _ _ _ 342 [(3, .int 0), (2, .ref 18), (1, .ref 0), (0, .retAddr 0)] [.ref 0] _ _ _ _
      refine pm_e_sim pm_a0_342 rfl ?_
      show pm_E _ _ _ 343 [(3, .int 0), (2, .ref 18), (1, .ref 0), (0, .retAddr 0)] [.retAddr 0, .ref 0] _ _ _ _
      refine pm_e_sim pm_a0_343 rfl ?_
      show pm_E _ _ _ 344 [(3, .int 0), (2, .ref 18), (1, .ref 0), (0, .retAddr 0)] [.int 0, .retAddr 0, .ref 0] _ _ _ _
      refine pm_e_sim pm_a0_344 rfl ?_
      refine pm_e_top (y := 1) (by decide +kernel) ?_
      show pm_E _ _ _ 345 [(3, .int 0), (2, .ref 18), (1, .ref 0), (0, .retAddr 0)] [.int 1, .int 0, .retAddr 0, .ref 0] _ _ _ _
      refine pm_e_sim pm_a0_345 rfl ?_
      refine pm_e_top (y := 1) (by decide +kernel) ?_
      show pm_E _ _ _ 346 [(3, .int 0), (2, .ref 18), (1, .ref 0), (0, .retAddr 0)] [.int 1, .retAddr 0, .ref 0] _ _ _ _
      refine pm_e_sld (j := 1) pm_a0_346 (by decide +kernel) ?_
      show pm_E _ _ _ 347 [(3, .int 0), (2, .ref 18), (1, .ref 0), (0, .retAddr 0)] [.int _, .ref 0] _ _ _ _
      refine pm_e_sim pm_a0_347 rfl ?_
      show pm_E _ _ _ 348 [(3, .int 0), (2, .ref 18), (1, .ref 0), (0, .retAddr 0)] [.retAddr 0, .int _, .ref 0] _ _ _ _
      refine pm_e_sim pm_a0_348 rfl ?_
      show pm_E _ _ _ 349 [(3, .int 0), (2, .ref 18), (1, .ref 0), (0, .retAddr 0)] [.int 0, .retAddr 0, .int _, .ref 0] _ _ _ _
      refine pm_e_sim pm_a0_349 rfl ?_
      refine pm_e_top (y := 2) (by decide +kernel) ?_
      show pm_E _ _ _ 350 [(3, .int 0), (2, .ref 18), (1, .ref 0), (0, .retAddr 0)] [.int 2, .int 0, .retAddr 0, .int _, .ref 0] _ _ _ _
      refine pm_e_sim pm_a0_350 rfl ?_
      refine pm_e_top (y := 2) (by decide +kernel) ?_
      show pm_E _ _ _ 351 [(3, .int 0), (2, .ref 18), (1, .ref 0), (0, .retAddr 0)] [.int 2, .retAddr 0, .int _, .ref 0] _ _ _ _
      refine pm_e_sld (j := 2) pm_a0_351 (by decide +kernel) ?_
      show pm_E _ _ _ 352 [(3, .int 0), (2, .ref 18), (1, .ref 0), (0, .retAddr 0)] [.int _, .int _, .ref 0] _ _ _ _
      refine pm_e_call (T2 := pm_mm29) pm_a0_352 rfl rfl rfl rfl rfl rfl rfl rfl rfl ?_
      show pm_E _ _ _ 0 [(0, .ref 0), (1, .int _), (2, .int _)] [] _ _ _ _
      refine pm_e_sim pm_a29_0 rfl ?_
      show pm_E _ _ _ 1 [(0, .ref 0), (1, .int _), (2, .int _)] [.ref 0] _ _ _ _
      refine pm_e_sim pm_a29_1 rfl ?_
      show pm_E _ _ _ 2 [(0, .ref 0), (1, .int _), (2, .int _)] [.int _, .ref 0] _ _ _ _
      refine pm_e_call (T2 := pm_mm26) pm_a29_2 rfl rfl rfl rfl rfl rfl rfl rfl rfl ?_
      show pm_E _ _ _ 0 [(0, .ref 0), (1, .int _)] [] _ _ _ _
      refine pm_e_sim pm_a26_0 rfl ?_
      show pm_E _ _ _ 1 [(0, .ref 0), (1, .int _)] [.int _] _ _ _ _
      refine pm_e_iff pm_a26_1 rfl (pm_z_lt_f 0 (by decide +kernel) (by omega)) ?_
      show pm_E _ _ _ 4 [(0, .ref 0), (1, .int _)] [] _ _ _ _
      refine pm_e_sim pm_a26_4 rfl ?_
      show pm_E _ _ _ 5 [(0, .ref 0), (1, .int _)] [.int _] _ _ _ _
      refine pm_e_sim pm_a26_5 rfl ?_
      show pm_E _ _ _ 6 [(0, .ref 0), (1, .int _)] [.ref 0, .int _] _ _ _ _
      refine pm_e_rd pm_a26_6 rfl rfl rfl ?_
      show pm_E _ _ _ 9 [(0, .ref 0), (1, .int _)] [.int 0, .int _] _ _ _ _
      refine pm_e_ict pm_a26_9 rfl (pm_z_ge_t 0 (by decide +kernel) (by omega)) ?_
      show pm_E _ _ _ 30 [(0, .ref 0), (1, .int _)] [] _ _ _ _
      refine pm_e_sim pm_a26_30 rfl ?_
      show pm_E _ _ _ 31 [(0, .ref 0), (1, .int _)] [.null] _ _ _ _
      refine pm_e_ret pm_a26_31 rfl rfl rfl rfl rfl rfl rfl rfl ?_
      show pm_E _ _ _ 5 [(0, .ref 0), (1, .int _), (2, .int _)] [.null] _ _ _ _
      refine pm_e_sim pm_a29_5 rfl ?_
      show pm_E _ _ _ 6 [(3, .null), (0, .ref 0), (1, .int _), (2, .int _)] [] _ _ _ _
      refine pm_e_sim pm_a29_6 rfl ?_
      show pm_E _ _ _ 7 [(3, .null), (0, .ref 0), (1, .int _), (2, .int _)] [.ref 0] _ _ _ _
      refine pm_e_sim pm_a29_7 rfl ?_
      show pm_E _ _ _ 8 [(3, .null), (0, .ref 0), (1, .int _), (2, .int _)] [.int _, .ref 0] _ _ _ _
      refine pm_e_call (T2 := pm_mm26) pm_a29_8 rfl rfl rfl rfl rfl rfl rfl rfl rfl ?_
      show pm_E _ _ _ 0 [(0, .ref 0), (1, .int _)] [] _ _ _ _
      refine pm_e_sim pm_a26_0 rfl ?_
      show pm_E _ _ _ 1 [(0, .ref 0), (1, .int _)] [.int _] _ _ _ _
      refine pm_e_iff pm_a26_1 rfl (pm_z_lt_f 0 (by decide +kernel) (by omega)) ?_
      show pm_E _ _ _ 4 [(0, .ref 0), (1, .int _)] [] _ _ _ _
      refine pm_e_sim pm_a26_4 rfl ?_
      show pm_E _ _ _ 5 [(0, .ref 0), (1, .int _)] [.int _] _ _ _ _
      refine pm_e_sim pm_a26_5 rfl ?_
      show pm_E _ _ _ 6 [(0, .ref 0), (1, .int _)] [.ref 0, .int _] _ _ _ _
      refine pm_e_rd pm_a26_6 rfl rfl rfl ?_
      show pm_E _ _ _ 9 [(0, .ref 0), (1, .int _)] [.int 0, .int _] _ _ _ _
      refine pm_e_ict pm_a26_9 rfl (pm_z_ge_t 0 (by decide +kernel) (by omega)) ?_
      show pm_E _ _ _ 30 [(0, .ref 0), (1, .int _)] [] _ _ _ _
      refine pm_e_sim pm_a26_30 rfl ?_
      show pm_E _ _ _ 31 [(0, .ref 0), (1, .int _)] [.null] _ _ _ _
      refine pm_e_ret pm_a26_31 rfl rfl rfl rfl rfl rfl rfl rfl ?_
      show pm_E _ _ _ 11 [(3, .null), (0, .ref 0), (1, .int _), (2, .int _)] [.null] _ _ _ _
      refine pm_e_sim pm_a29_11 rfl ?_
      show pm_E _ _ _ 13 [(4, .null), (3, .null), (0, .ref 0), (1, .int _), (2, .int _)] [] _ _ _ _
      refine pm_e_sim pm_a29_13 rfl ?_
      show pm_E _ _ _ 14 [(4, .null), (3, .null), (0, .ref 0), (1, .int _), (2, .int _)] [.null] _ _ _ _
      refine pm_e_jmp (pc2 := 22) pm_a29_14 rfl rfl ?_
      show pm_E _ _ _ 22 [(4, .null), (3, .null), (0, .ref 0), (1, .int _), (2, .int _)] [] _ _ _ _
      refine pm_e_sim pm_a29_22 rfl ?_
      refine pm_e_top (y := (-1)) (by decide +kernel) ?_
      show pm_E _ _ _ 23 [(4, .null), (3, .null), (0, .ref 0), (1, .int _), (2, .int _)] [.int (-1)] _ _ _ _
      refine pm_e_ret pm_a29_23 rfl rfl rfl rfl rfl rfl rfl rfl ?_
      show pm_E _ _ _ 355 [(3, .int 0), (2, .ref 18), (1, .ref 0), (0, .retAddr 0)] [.int (-1)] _ _ _ _
      refine pm_e_sim pm_a0_355 rfl ?_
      show pm_E _ _ _ 356 [(3, .int 0), (2, .ref 18), (1, .ref 0), (0, .retAddr 0)] [.ref 18, .int (-1)] _ _ _ _
      refine pm_e_sim pm_a0_356 rfl ?_
      show pm_E _ _ _ 357 [(3, .int 0), (2, .ref 18), (1, .ref 0), (0, .retAddr 0)] [.retAddr 0, .ref 18, .int (-1)] _ _ _ _
      refine pm_e_sim pm_a0_357 rfl ?_
      show pm_E _ _ _ 358 [(3, .int 0), (2, .ref 18), (1, .ref 0), (0, .retAddr 0)] [.int 0, .retAddr 0, .ref 18, .int (-1)] _ _ _ _
      refine pm_e_sim pm_a0_358 rfl ?_
      refine pm_e_top (y := 1) (by decide +kernel) ?_
      show pm_E _ _ _ 359 [(3, .int 0), (2, .ref 18), (1, .ref 0), (0, .retAddr 0)] [.int 1, .int 0, .retAddr 0, .ref 18, .int (-1)] _ _ _ _
      refine pm_e_sim pm_a0_359 rfl ?_
      refine pm_e_top (y := 1) (by decide +kernel) ?_
      show pm_E _ _ _ 360 [(3, .int 0), (2, .ref 18), (1, .ref 0), (0, .retAddr 0)] [.int 1, .retAddr 0, .ref 18, .int (-1)] _ _ _ _
      refine pm_e_sld (j := 1) pm_a0_360 (by decide +kernel) ?_
      show pm_E _ _ _ 361 [(3, .int 0), (2, .ref 18), (1, .ref 0), (0, .retAddr 0)] [.int _, .ref 18, .int (-1)] _ _ _ _
      refine pm_e_sim pm_a0_361 rfl ?_
      show pm_E _ _ _ 362 [(3, .int 0), (2, .ref 18), (1, .ref 0), (0, .retAddr 0)] [.retAddr 0, .int _, .ref 18, .int (-1)] _ _ _ _
      refine pm_e_sim pm_a0_362 rfl ?_
      show pm_E _ _ _ 363 [(3, .int 0), (2, .ref 18), (1, .ref 0), (0, .retAddr 0)] [.int 0, .retAddr 0, .int _, .ref 18, .int (-1)] _ _ _ _
      refine pm_e_sim pm_a0_363 rfl ?_
      refine pm_e_top (y := 2) (by decide +kernel) ?_
      show pm_E _ _ _ 364 [(3, .int 0), (2, .ref 18), (1, .ref 0), (0, .retAddr 0)] [.int 2, .int 0, .retAddr 0, .int _, .ref 18, .int (-1)] _ _ _ _
      refine pm_e_sim pm_a0_364 rfl ?_
      refine pm_e_top (y := 2) (by decide +kernel) ?_
      show pm_E _ _ _ 365 [(3, .int 0), (2, .ref 18), (1, .ref 0), (0, .retAddr 0)] [.int 2, .retAddr 0, .int _, .ref 18, .int (-1)] _ _ _ _
      refine pm_e_sld (j := 2) pm_a0_365 (by decide +kernel) ?_
      show pm_E _ _ _ 366 [(3, .int 0), (2, .ref 18), (1, .ref 0), (0, .retAddr 0)] [.int _, .int _, .ref 18, .int (-1)] _ _ _ _
      refine pm_e_call (T2 := pm_mm64) pm_a0_366 rfl rfl rfl rfl rfl rfl rfl rfl rfl ?_
      show pm_E _ _ _ 0 [(0, .ref 18), (1, .int _), (2, .int _)] [] _ _ _ _
      refine pm_e_sim pm_a64_0 rfl ?_
      show pm_E _ _ _ 1 [(0, .ref 18), (1, .int _), (2, .int _)] [.ref 18] _ _ _ _
      refine pm_e_sim pm_a64_1 rfl ?_
      show pm_E _ _ _ 2 [(0, .ref 18), (1, .int _), (2, .int _)] [.int _, .ref 18] _ _ _ _
      refine pm_e_call (T2 := pm_mm61) pm_a64_2 rfl rfl rfl rfl rfl rfl rfl rfl rfl ?_
      show pm_E _ _ _ 0 [(0, .ref 18), (1, .int _)] [] _ _ _ _
      refine pm_e_sim pm_a61_0 rfl ?_
      show pm_E _ _ _ 1 [(0, .ref 18), (1, .int _)] [.int _] _ _ _ _
      refine pm_e_sim pm_a61_1 rfl ?_
      show pm_E _ _ _ 2 [(0, .ref 18), (1, .int _)] [.long _] _ _ _ _
      refine pm_e_sim pm_a61_2 rfl ?_
      show pm_E _ _ _ 3 [(0, .ref 18), (1, .int _)] [.long _, .long _] _ _ _ _
      refine pm_e_sim pm_a61_3 rfl ?_
      show pm_E _ _ _ 4 [(0, .ref 18), (1, .int _)] [.ref 18, .long _, .long _] _ _ _ _
      refine pm_e_rd pm_a61_4 rfl rfl rfl ?_
      show pm_E _ _ _ 7 [(0, .ref 18), (1, .int _)] [.int 0, .long _, .long _] _ _ _ _
      refine pm_e_sim pm_a61_7 rfl ?_
      refine pm_e_top (y := 1) (by decide +kernel) ?_
      show pm_E _ _ _ 8 [(0, .ref 18), (1, .int _)] [.int 1, .int 0, .long _, .long _] _ _ _ _
      refine pm_e_sim pm_a61_8 rfl ?_
      refine pm_e_top (y := (-1)) (by decide +kernel) ?_
      show pm_E _ _ _ 9 [(0, .ref 18), (1, .int _)] [.int (-1), .long _, .long _] _ _ _ _
      refine pm_e_sim pm_a61_9 rfl ?_
      show pm_E _ _ _ 10 [(0, .ref 18), (1, .int _)] [.long _, .long _, .long _] _ _ _ _
      refine pm_e_call (T2 := pm_mm50) pm_a61_10 rfl rfl rfl rfl rfl rfl rfl rfl rfl ?_
      show pm_E _ _ _ 0 [(0, .long _), (2, .long _), (4, .long _)] [] _ _ _ _
      refine pm_e_sim pm_a50_0 rfl ?_
      show pm_E _ _ _ 1 [(0, .long _), (2, .long _), (4, .long _)] [.long _] _ _ _ _
      refine pm_e_sim pm_a50_1 rfl ?_
      show pm_E _ _ _ 2 [(0, .long _), (2, .long _), (4, .long _)] [.long _, .long _] _ _ _ _
      refine pm_e_sim pm_a50_2 rfl ?_
      show pm_E _ _ _ 3 [(0, .long _), (2, .long _), (4, .long _)] [.int _] _ _ _ _
      refine pm_e_iff pm_a50_3 rfl (pm_zl_gt 0 (by decide +kernel) (by omega) (by decide +kernel)) ?_
      show pm_E _ _ _ 6 [(0, .long _), (2, .long _), (4, .long _)] [] _ _ _ _
      refine pm_e_sim pm_a50_6 rfl ?_
      show pm_E _ _ _ 7 [(0, .long _), (2, .long _), (4, .long _)] [.long _] _ _ _ _
      refine pm_e_sim pm_a50_7 rfl ?_
      show pm_E _ _ _ 9 [(0, .long _), (2, .long _), (4, .long _)] [.long _, .long _] _ _ _ _
      refine pm_e_sim pm_a50_9 rfl ?_
      show pm_E _ _ _ 10 [(0, .long _), (2, .long _), (4, .long _)] [.int _] _ _ _ _
      refine pm_e_ift pm_a50_10 rfl (pm_zl_gt (-1) (by decide +kernel) (by omega) (by decide +kernel)) ?_
      show pm_E _ _ _ 17 [(0, .long _), (2, .long _), (4, .long _)] [] _ _ _ _
      refine pm_e_sim pm_a50_17 rfl ?_
      refine pm_e_top (y := 0) (by decide +kernel) ?_
      show pm_E _ _ _ 18 [(0, .long _), (2, .long _), (4, .long _)] [.int 0] _ _ _ _
      refine pm_e_ret pm_a50_18 rfl rfl rfl rfl rfl rfl rfl rfl ?_
      show pm_E _ _ _ 13 [(0, .ref 18), (1, .int _)] [.int 0] _ _ _ _
      refine pm_e_ret pm_a61_13 rfl rfl rfl rfl rfl rfl rfl rfl ?_
      show pm_E _ _ _ 5 [(0, .ref 18), (1, .int _), (2, .int _)] [.int 0] _ _ _ _
      refine pm_e_ift pm_a64_5 rfl (by decide +kernel) ?_
      show pm_E _ _ _ 16 [(0, .ref 18), (1, .int _), (2, .int _)] [] _ _ _ _
      refine pm_e_sim pm_a64_16 rfl ?_
      refine pm_e_top (y := (-1)) (by decide +kernel) ?_
      show pm_E _ _ _ 17 [(0, .ref 18), (1, .int _), (2, .int _)] [.int (-1)] _ _ _ _
      refine pm_e_ret pm_a64_17 rfl rfl rfl rfl rfl rfl rfl rfl ?_
      show pm_E _ _ _ 369 [(3, .int 0), (2, .ref 18), (1, .ref 0), (0, .retAddr 0)] [.int (-1), .int (-1)] _ _ _ _
      refine pm_e_ict pm_a0_369 rfl (by decide +kernel) ?_
      show pm_E _ _ _ 779 [(3, .int 0), (2, .ref 18), (1, .ref 0), (0, .retAddr 0)] [] _ _ _ _
      refine pm_e_inc (y := 6) pm_a0_779 rfl (by decide +kernel) (by decide +kernel) rfl ?_
      show pm_E _ _ _ 782 [(3, .int 6), (2, .ref 18), (1, .ref 0), (0, .retAddr 0)] [] _ _ _ _
      refine pm_e_goto pm_a0_782 rfl ?_
      show pm_E _ _ _ 18 [(3, .int 6), (2, .ref 18), (1, .ref 0), (0, .retAddr 0)] [] _ _ _ _
      refine pm_e_sim pm_a0_18 rfl ?_
      show pm_E _ _ _ 19 [(3, .int 6), (2, .ref 18), (1, .ref 0), (0, .retAddr 0)] [.int 6] _ _ _ _
      refine pm_e_sim pm_a0_19 rfl ?_
      show pm_E _ _ _ 20 [(3, .int 6), (2, .ref 18), (1, .ref 0), (0, .retAddr 0)] [.retAddr 0, .int 6] _ _ _ _
      refine pm_e_rd pm_a0_20 rfl rfl rfl ?_
      dsimp only
      refine pm_e_top (y := 6) (by decide +kernel) ?_
      show pm_E _ _ _ 21 [(3, .int 6), (2, .ref 18), (1, .ref 0), (0, .retAddr 0)] [.int 6, .int 6] _ _ _ _
      refine pm_e_sim pm_a0_21 rfl ?_
      refine pm_e_top (y := 6) (by decide +kernel) ?_
      show pm_E _ _ _ 23 [(3, .int 6), (2, .ref 18), (1, .ref 0), (0, .retAddr 0)] [.int 6, .int 6, .int 6] _ _ _ _
      refine pm_e_sim pm_a0_23 rfl ?_
      refine pm_e_top (y := 0) (by decide +kernel) ?_
      show pm_E _ _ _ 24 [(3, .int 6), (2, .ref 18), (1, .ref 0), (0, .retAddr 0)] [.int 0, .int 6] _ _ _ _
      refine pm_e_ict pm_a0_24 rfl (by decide +kernel) ?_
      show pm_E _ _ _ 785 [(3, .int 6), (2, .ref 18), (1, .ref 0), (0, .retAddr 0)] [] _ _ _ _
      refine pm_e_sim pm_a0_785 rfl ?_
      refine pm_e_top (y := 1) (by decide +kernel) ?_
      show pm_E _ _ _ 786 [(3, .int 6), (2, .ref 18), (1, .ref 0), (0, .retAddr 0)] [.int 1] _ _ _ _
      refine pm_e_ret pm_a0_786 rfl rfl rfl rfl rfl rfl rfl rfl ?_
      exact hQ _ _ _ (by decide +kernel) (by decide +kernel)
