/-! one call on a fresh object -/
set_option maxHeartbeats 40000000 in
set_option maxRecDepth 200000 in
theorem pm_op2 (xs : Nat → Int32) {Q : Option Value → List va_E → Nat → Nat → Prop} (hQ : ∀ ph c n, c ≤ 600000 → n ≤ 7302250 → Q (some (.int 1)) ph c n) : pm_E (some (6, xs)) 11 pm_mm0 33 pm_L0 [.int (nI 2)] pm_H0 50 194358 Q := by
  refine pm_e_top (y := 2) (by decide +kernel) ?_
  refine pm_e_tsi (t := 226) pm_a0_33 rfl (by decide +kernel) ?_
  show pm_E _ _ _ 226 [(3, .int 0), (2, .ref 18), (1, .ref 0), (0, .retAddr 0)] [] _ _ _ _
  refine pm_e_sim pm_a0_226 rfl ?_
  show pm_E _ _ _ 227 [(3, .int 0), (2, .ref 18), (1, .ref 0), (0, .retAddr 0)] [.ref 0] _ _ _ _
  refine pm_e_call (T2 := pm_mm11) pm_a0_227 rfl rfl rfl rfl rfl rfl rfl rfl rfl ?_
  show pm_E _ _ _ 0 [(0, .ref 0)] [] _ _ _ _
  refine pm_e_sim pm_a11_0 rfl ?_
  show pm_E _ _ _ 1 [(0, .ref 0)] [.ref 0] _ _ _ _
  refine pm_e_call (T2 := pm_mm12) pm_a11_1 rfl rfl rfl rfl rfl rfl rfl rfl rfl ?_
  show pm_E _ _ _ 0 [(0, .ref 0)] [] _ _ _ _
  refine pm_e_sim pm_a12_0 rfl ?_
  show pm_E _ _ _ 1 [(0, .ref 0)] [.ref 0] _ _ _ _
  refine pm_e_rd pm_a12_1 rfl rfl rfl ?_
  show pm_E _ _ _ 4 [(0, .ref 0)] [.int 0] _ _ _ _
  refine pm_e_iff pm_a12_4 rfl (by decide +kernel) ?_
  show pm_E _ _ _ 7 [(0, .ref 0)] [] _ _ _ _
  refine pm_e_sim pm_a12_7 rfl ?_
  show pm_E _ _ _ 8 [(0, .ref 0)] [.ref 0] _ _ _ _
  refine pm_e_rd pm_a12_8 rfl rfl rfl ?_
  show pm_E _ _ _ 11 [(0, .ref 0)] [.int 0] _ _ _ _
  refine pm_e_sim pm_a12_11 rfl ?_
  show pm_E _ _ _ 12 [(0, .ref 0)] [.ref 0, .int 0] _ _ _ _
  refine pm_e_rd pm_a12_12 rfl rfl rfl ?_
  show pm_E _ _ _ 15 [(0, .ref 0)] [.ref 3, .int 0] _ _ _ _
  refine pm_e_rd pm_a12_15 rfl rfl rfl ?_
  dsimp only
  refine pm_e_top (y := 32) (by decide +kernel) ?_
  show pm_E _ _ _ 16 [(0, .ref 0)] [.int 32, .int 0] _ _ _ _
  refine pm_e_ict pm_a12_16 rfl (by decide +kernel) ?_
  show pm_E _ _ _ 21 [(0, .ref 0)] [] _ _ _ _
  refine pm_e_sim pm_a12_21 rfl ?_
  show pm_E _ _ _ 22 [(0, .ref 0)] [.ref 0] _ _ _ _
  refine pm_e_rd pm_a12_22 rfl rfl rfl ?_
  show pm_E _ _ _ 25 [(0, .ref 0)] [.ref 3] _ _ _ _
  refine pm_e_sim pm_a12_25 rfl ?_
  show pm_E _ _ _ 26 [(0, .ref 0)] [.ref 0, .ref 3] _ _ _ _
  refine pm_e_rd pm_a12_26 rfl rfl rfl ?_
  show pm_E _ _ _ 29 [(0, .ref 0)] [.int 0, .ref 3] _ _ _ _
  refine pm_e_rd pm_a12_29 rfl rfl rfl ?_
  show pm_E _ _ _ 30 [(0, .ref 0)] [.null] _ _ _ _
  refine pm_e_sim pm_a12_30 rfl ?_
  show pm_E _ _ _ 31 [(1, .null), (0, .ref 0)] [] _ _ _ _
  refine pm_e_sim pm_a12_31 rfl ?_
  show pm_E _ _ _ 32 [(1, .null), (0, .ref 0)] [.null] _ _ _ _
  refine pm_e_jmp (pc2 := 35) pm_a12_32 rfl rfl ?_
  show pm_E _ _ _ 35 [(1, .null), (0, .ref 0)] [] _ _ _ _
  refine pm_e_nw (k2 := 50) pm_a12_35 rfl rfl rfl rfl rfl rfl rfl ?_
  show pm_E _ _ _ 38 [(1, .null), (0, .ref 0)] [.ref 50] ((pm_H0) ++ [.inr (1, [.null, .int 0, .int 0])]) _ _ _
  refine pm_e_sim pm_a12_38 rfl ?_
  show pm_E _ _ _ 39 [(1, .null), (0, .ref 0)] [.ref 50, .ref 50] _ _ _ _
  refine pm_e_sim pm_a12_39 rfl ?_
  refine pm_e_top (y := 500) (by decide +kernel) ?_
  show pm_E _ _ _ 42 [(1, .null), (0, .ref 0)] [.int 500, .ref 50, .ref 50] _ _ _ _
  refine pm_e_call (T2 := pm_mm3) pm_a12_42 rfl rfl rfl rfl rfl rfl rfl rfl rfl ?_
  show pm_E _ _ _ 0 [(0, .ref 50), (1, .int 500)] [] _ _ _ _
  refine pm_e_sim pm_a3_0 rfl ?_
  show pm_E _ _ _ 1 [(0, .ref 50), (1, .int 500)] [.ref 50] _ _ _ _
  refine pm_e_nat pm_a3_1 rfl rfl rfl rfl rfl rfl ?_
  show pm_E _ _ _ 4 [(0, .ref 50), (1, .int 500)] [] _ _ _ _
  refine pm_e_sim pm_a3_4 rfl ?_
  show pm_E _ _ _ 5 [(0, .ref 50), (1, .int 500)] [.ref 50] _ _ _ _
  refine pm_e_sim pm_a3_5 rfl ?_
  show pm_E _ _ _ 6 [(0, .ref 50), (1, .int 500)] [.int 500, .ref 50] _ _ _ _
  refine pm_e_sim pm_a3_6 rfl ?_
  refine pm_e_top (y := 0) (by decide +kernel) ?_
  show pm_E _ _ _ 7 [(0, .ref 50), (1, .int 500)] [.int 0, .int 500, .ref 50] _ _ _ _
  refine pm_e_nat pm_a3_7 rfl rfl rfl rfl rfl rfl ?_
  refine pm_e_top (y := 500) (by decide +kernel) ?_
  show pm_E _ _ _ 10 [(0, .ref 50), (1, .int 500)] [.int 500, .ref 50] _ _ _ _
  refine pm_e_nw (k2 := 51) pm_a3_10 rfl rfl rfl rfl rfl rfl rfl ?_
  show pm_E _ _ _ 12 [(0, .ref 50), (1, .int 500)] [.ref 51, .ref 50] (((pm_H0) ++ [.inr (1, [.null, .int 0, .int 0])]) ++ [.inl (0, 500, .inl _)]) _ _ _
  refine pm_e_wr pm_a3_12 rfl rfl rfl rfl rfl ?_
  show pm_E _ _ _ 15 [(0, .ref 50), (1, .int 500)] [] (((pm_H0) ++ [.inr (1, [.ref 51, .int 0, .int 0])]) ++ [.inl (0, 500, .inl _)]) _ _ _
  refine pm_e_ret pm_a3_15 rfl rfl rfl rfl rfl rfl rfl rfl ?_
  show pm_E _ _ _ 45 [(1, .null), (0, .ref 0)] [.ref 50] _ _ _ _
  refine pm_e_sim pm_a12_45 rfl ?_
  show pm_E _ _ _ 46 [(1, .ref 50), (0, .ref 0)] [] _ _ _ _
  refine pm_e_sim pm_a12_46 rfl ?_
  show pm_E _ _ _ 47 [(1, .ref 50), (0, .ref 0)] [.ref 0] _ _ _ _
  refine pm_e_rd pm_a12_47 rfl rfl rfl ?_
  show pm_E _ _ _ 50 [(1, .ref 50), (0, .ref 0)] [.ref 3] _ _ _ _
  refine pm_e_sim pm_a12_50 rfl ?_
  show pm_E _ _ _ 51 [(1, .ref 50), (0, .ref 0)] [.ref 0, .ref 3] _ _ _ _
  refine pm_e_rd pm_a12_51 rfl rfl rfl ?_
  show pm_E _ _ _ 54 [(1, .ref 50), (0, .ref 0)] [.int 0, .ref 3] _ _ _ _
  refine pm_e_sim pm_a12_54 rfl ?_
  show pm_E _ _ _ 55 [(1, .ref 50), (0, .ref 0)] [.ref 50, .int 0, .ref 3] _ _ _ _
  refine pm_e_wr pm_a12_55 rfl rfl rfl rfl rfl ?_
  show pm_E _ _ _ 56 [(1, .ref 50), (0, .ref 0)] [] (((pm_H0.set 3 (.inl (3, 32, .inr (.inr (.inr (.inr _)))))) ++ [.inr (1, [.ref 51, .int 0, .int 0])]) ++ [.inl (0, 500, .inl _)]) _ _ _
  refine pm_e_sim pm_a12_56 rfl ?_
  show pm_E _ _ _ 57 [(1, .ref 50), (0, .ref 0)] [.ref 50] _ _ _ _
  refine pm_e_call (T2 := pm_mm13) pm_a12_57 rfl rfl rfl rfl rfl rfl rfl rfl rfl ?_
  show pm_E _ _ _ 0 [(0, .ref 50)] [] _ _ _ _
  refine pm_e_sim pm_a13_0 rfl ?_
  show pm_E _ _ _ 1 [(0, .ref 50)] [.ref 50] _ _ _ _
  refine pm_e_sim pm_a13_1 rfl ?_
  refine pm_e_top (y := 0) (by decide +kernel) ?_
  show pm_E _ _ _ 2 [(0, .ref 50)] [.int 0, .ref 50] _ _ _ _
  refine pm_e_wr pm_a13_2 rfl rfl rfl rfl rfl ?_
  show pm_E _ _ _ 5 [(0, .ref 50)] [] (((pm_H0.set 3 (.inl (3, 32, .inr (.inr (.inr (.inr _)))))) ++ [.inr (1, [.ref 51, .int 0, .int 0])]) ++ [.inl (0, 500, .inl _)]) _ _ _
  refine pm_e_sim pm_a13_5 rfl ?_
  show pm_E _ _ _ 6 [(0, .ref 50)] [.ref 50] _ _ _ _
  refine pm_e_sim pm_a13_6 rfl ?_
  refine pm_e_top (y := 0) (by decide +kernel) ?_
  show pm_E _ _ _ 7 [(0, .ref 50)] [.int 0, .ref 50] _ _ _ _
  refine pm_e_wr pm_a13_7 rfl rfl rfl rfl rfl ?_
  show pm_E _ _ _ 10 [(0, .ref 50)] [] (((pm_H0.set 3 (.inl (3, 32, .inr (.inr (.inr (.inr _)))))) ++ [.inr (1, [.ref 51, .int 0, .int 0])]) ++ [.inl (0, 500, .inl _)]) _ _ _
  refine pm_e_ret pm_a13_10 rfl rfl rfl rfl rfl rfl rfl rfl ?_
  show pm_E _ _ _ 60 [(1, .ref 50), (0, .ref 0)] [] _ _ _ _
  refine pm_e_sim pm_a12_60 rfl ?_
  show pm_E _ _ _ 61 [(1, .ref 50), (0, .ref 0)] [.ref 50] _ _ _ _
  refine pm_e_ret pm_a12_61 rfl rfl rfl rfl rfl rfl rfl rfl ?_
  show pm_E _ _ _ 4 [(0, .ref 0)] [.ref 50] _ _ _ _
  refine pm_e_sim pm_a11_4 rfl ?_
  show pm_E _ _ _ 5 [(1, .ref 50), (0, .ref 0)] [] _ _ _ _
  refine pm_e_sim pm_a11_5 rfl ?_
  show pm_E _ _ _ 6 [(1, .ref 50), (0, .ref 0)] [.ref 50] _ _ _ _
  refine pm_e_jmp (pc2 := 12) pm_a11_6 rfl rfl ?_
  show pm_E _ _ _ 12 [(1, .ref 50), (0, .ref 0)] [] _ _ _ _
  refine pm_e_sim pm_a11_12 rfl ?_
  show pm_E _ _ _ 13 [(1, .ref 50), (0, .ref 0)] [.ref 0] _ _ _ _
  refine pm_e_sim pm_a11_13 rfl ?_
  show pm_E _ _ _ 14 [(1, .ref 50), (0, .ref 0)] [.ref 0, .ref 0] _ _ _ _
  refine pm_e_rd pm_a11_14 rfl rfl rfl ?_
  show pm_E _ _ _ 17 [(1, .ref 50), (0, .ref 0)] [.ref 9, .ref 0] _ _ _ _
  refine pm_e_sim pm_a11_17 rfl ?_
  show pm_E _ _ _ 18 [(1, .ref 50), (0, .ref 0)] [.ref 50, .ref 9, .ref 0] _ _ _ _
  refine pm_e_call (T2 := pm_mm14) pm_a11_18 rfl rfl rfl rfl rfl rfl rfl rfl rfl ?_
  show pm_E _ _ _ 0 [(0, .ref 9), (1, .ref 50)] [] _ _ _ _
  refine pm_e_sim pm_a14_0 rfl ?_
  show pm_E _ _ _ 1 [(0, .ref 9), (1, .ref 50)] [.ref 9] _ _ _ _
  refine pm_e_sim pm_a14_1 rfl ?_
  refine pm_e_top (y := 0) (by decide +kernel) ?_
  show pm_E _ _ _ 2 [(0, .ref 9), (1, .ref 50)] [.int 0, .ref 9] _ _ _ _
  refine pm_e_wr pm_a14_2 rfl rfl rfl rfl rfl ?_
  show pm_E _ _ _ 5 [(0, .ref 9), (1, .ref 50)] [] ((((pm_H0.set 3 (.inl (3, 32, .inr (.inr (.inr (.inr _)))))).set 9 (.inr (2, [.ref 10, .ref 11, .ref 12, .ref 1, .int 0, .int 0, .int 0, .int 0, .int 0, .int 0, .int 0, .int 0, .int 0]))) ++ [.inr (1, [.ref 51, .int 0, .int 0])]) ++ [.inl (0, 500, .inl _)]) _ _ _
  refine pm_e_sim pm_a14_5 rfl ?_
  show pm_E _ _ _ 6 [(0, .ref 9), (1, .ref 50)] [.ref 9] _ _ _ _
  refine pm_e_sim pm_a14_6 rfl ?_
  refine pm_e_top (y := 0) (by decide +kernel) ?_
  show pm_E _ _ _ 7 [(0, .ref 9), (1, .ref 50)] [.int 0, .ref 9] _ _ _ _
  refine pm_e_wr pm_a14_7 rfl rfl rfl rfl rfl ?_
  show pm_E _ _ _ 10 [(0, .ref 9), (1, .ref 50)] [] ((((pm_H0.set 3 (.inl (3, 32, .inr (.inr (.inr (.inr _)))))).set 9 (.inr (2, [.ref 10, .ref 11, .ref 12, .ref 1, .int 0, .int 0, .int 0, .int 0, .int 0, .int 0, .int 0, .int 0, .int 0]))) ++ [.inr (1, [.ref 51, .int 0, .int 0])]) ++ [.inl (0, 500, .inl _)]) _ _ _
  refine pm_e_sim pm_a14_10 rfl ?_
  show pm_E _ _ _ 11 [(0, .ref 9), (1, .ref 50)] [.ref 9] _ _ _ _
  refine pm_e_sim pm_a14_11 rfl ?_
  refine pm_e_top (y := 0) (by decide +kernel) ?_
  show pm_E _ _ _ 12 [(0, .ref 9), (1, .ref 50)] [.int 0, .ref 9] _ _ _ _
  refine pm_e_wr pm_a14_12 rfl rfl rfl rfl rfl ?_
  show pm_E _ _ _ 15 [(0, .ref 9), (1, .ref 50)] [] ((((pm_H0.set 3 (.inl (3, 32, .inr (.inr (.inr (.inr _)))))).set 9 (.inr (2, [.ref 10, .ref 11, .ref 12, .ref 1, .int 0, .int 0, .int 0, .int 0, .int 0, .int 0, .int 0, .int 0, .int 0]))) ++ [.inr (1, [.ref 51, .int 0, .int 0])]) ++ [.inl (0, 500, .inl _)]) _ _ _
  refine pm_e_sim pm_a14_15 rfl ?_
  show pm_E _ _ _ 16 [(0, .ref 9), (1, .ref 50)] [.ref 9] _ _ _ _
  refine pm_e_sim pm_a14_16 rfl ?_
  refine pm_e_top (y := 0) (by decide +kernel) ?_
  show pm_E _ _ _ 17 [(0, .ref 9), (1, .ref 50)] [.int 0, .ref 9] _ _ _ _
  refine pm_e_wr pm_a14_17 rfl rfl rfl rfl rfl ?_
  show pm_E _ _ _ 20 [(0, .ref 9), (1, .ref 50)] [] ((((pm_H0.set 3 (.inl (3, 32, .inr (.inr (.inr (.inr _)))))).set 9 (.inr (2, [.ref 10, .ref 11, .ref 12, .ref 1, .int 0, .int 0, .int 0, .int 0, .int 0, .int 0, .int 0, .int 0, .int 0]))) ++ [.inr (1, [.ref 51, .int 0, .int 0])]) ++ [.inl (0, 500, .inl _)]) _ _ _
  refine pm_e_sim pm_a14_20 rfl ?_
  show pm_E _ _ _ 21 [(0, .ref 9), (1, .ref 50)] [.ref 9] _ _ _ _
  refine pm_e_sim pm_a14_21 rfl ?_
  refine pm_e_top (y := 0) (by decide +kernel) ?_
  show pm_E _ _ _ 22 [(0, .ref 9), (1, .ref 50)] [.int 0, .ref 9] _ _ _ _
  refine pm_e_wr pm_a14_22 rfl rfl rfl rfl rfl ?_
  show pm_E _ _ _ 25 [(0, .ref 9), (1, .ref 50)] [] ((((pm_H0.set 3 (.inl (3, 32, .inr (.inr (.inr (.inr _)))))).set 9 (.inr (2, [.ref 10, .ref 11, .ref 12, .ref 1, .int 0, .int 0, .int 0, .int 0, .int 0, .int 0, .int 0, .int 0, .int 0]))) ++ [.inr (1, [.ref 51, .int 0, .int 0])]) ++ [.inl (0, 500, .inl _)]) _ _ _
  refine pm_e_sim pm_a14_25 rfl ?_
  show pm_E _ _ _ 26 [(0, .ref 9), (1, .ref 50)] [.ref 9] _ _ _ _
  refine pm_e_sim pm_a14_26 rfl ?_
  refine pm_e_top (y := 0) (by decide +kernel) ?_
  show pm_E _ _ _ 27 [(0, .ref 9), (1, .ref 50)] [.int 0, .ref 9] _ _ _ _
  refine pm_e_wr pm_a14_27 rfl rfl rfl rfl rfl ?_
  show pm_E _ _ _ 30 [(0, .ref 9), (1, .ref 50)] [] ((((pm_H0.set 3 (.inl (3, 32, .inr (.inr (.inr (.inr _)))))).set 9 (.inr (2, [.ref 10, .ref 11, .ref 12, .ref 1, .int 0, .int 0, .int 0, .int 0, .int 0, .int 0, .int 0, .int 0, .int 0]))) ++ [.inr (1, [.ref 51, .int 0, .int 0])]) ++ [.inl (0, 500, .inl _)]) _ _ _
  refine pm_e_sim pm_a14_30 rfl ?_
  show pm_E _ _ _ 31 [(0, .ref 9), (1, .ref 50)] [.ref 9] _ _ _ _
  refine pm_e_call (T2 := pm_mm15) pm_a14_31 rfl rfl rfl rfl rfl rfl rfl rfl rfl ?_
  show pm_E _ _ _ 0 [(0, .ref 9)] [] _ _ _ _
  refine pm_e_sim pm_a15_0 rfl ?_
  show pm_E _ _ _ 1 [(0, .ref 9)] [.ref 9] _ _ _ _
  refine pm_e_sim pm_a15_1 rfl ?_
  show pm_E _ _ _ 2 [(0, .ref 9)] [.ref 9, .ref 9] _ _ _ _
  refine pm_e_rd pm_a15_2 rfl rfl rfl ?_
  show pm_E _ _ _ 5 [(0, .ref 9)] [.int 0, .ref 9] _ _ _ _
  refine pm_e_wr pm_a15_5 rfl rfl rfl rfl rfl ?_
  show pm_E _ _ _ 8 [(0, .ref 9)] [] ((((pm_H0.set 3 (.inl (3, 32, .inr (.inr (.inr (.inr _)))))).set 9 (.inr (2, [.ref 10, .ref 11, .ref 12, .ref 1, .int 0, .int 0, .int 0, .int 0, .int 0, .int 0, .int 0, .int 0, .int 0]))) ++ [.inr (1, [.ref 51, .int 0, .int 0])]) ++ [.inl (0, 500, .inl _)]) _ _ _
  refine pm_e_sim pm_a15_8 rfl ?_
  show pm_E _ _ _ 9 [(0, .ref 9)] [.ref 9] _ _ _ _
  refine pm_e_sim pm_a15_9 rfl ?_
  refine pm_e_top (y := 0) (by decide +kernel) ?_
  show pm_E _ _ _ 10 [(0, .ref 9)] [.int 0, .ref 9] _ _ _ _
  refine pm_e_call (T2 := pm_mm16) pm_a15_10 rfl rfl rfl rfl rfl rfl rfl rfl rfl ?_
  show pm_E _ _ _ 0 [(0, .ref 9), (1, .int 0)] [] _ _ _ _
  refine pm_e_sim pm_a16_0 rfl ?_
  show pm_E _ _ _ 1 [(0, .ref 9), (1, .int 0)] [.ref 9] _ _ _ _
  refine pm_e_rd pm_a16_1 rfl rfl rfl ?_
  show pm_E _ _ _ 4 [(0, .ref 9), (1, .int 0)] [.int 0] _ _ _ _
  refine pm_e_iff pm_a16_4 rfl (by decide +kernel) ?_
  show pm_E _ _ _ 7 [(0, .ref 9), (1, .int 0)] [] _ _ _ _
  refine pm_e_sim pm_a16_7 rfl ?_
  show pm_E _ _ _ 8 [(0, .ref 9), (1, .int 0)] [.ref 9] _ _ _ _
  refine pm_e_rd pm_a16_8 rfl rfl rfl ?_
  show pm_E _ _ _ 11 [(0, .ref 9), (1, .int 0)] [.int 0] _ _ _ _
  refine pm_e_sim pm_a16_11 rfl ?_
  show pm_E _ _ _ 12 [(0, .ref 9), (1, .int 0)] [.ref 9, .int 0] _ _ _ _
  refine pm_e_rd pm_a16_12 rfl rfl rfl ?_
  show pm_E _ _ _ 15 [(0, .ref 9), (1, .int 0)] [.ref 10, .int 0] _ _ _ _
  refine pm_e_rd pm_a16_15 rfl rfl rfl ?_
  dsimp only
  refine pm_e_top (y := 601) (by decide +kernel) ?_
  show pm_E _ _ _ 16 [(0, .ref 9), (1, .int 0)] [.int 601, .int 0] _ _ _ _
  refine pm_e_icf pm_a16_16 rfl (by decide +kernel) ?_
  show pm_E _ _ _ 19 [(0, .ref 9), (1, .int 0)] [] _ _ _ _
  refine pm_e_sim pm_a16_19 rfl ?_
  show pm_E _ _ _ 20 [(0, .ref 9), (1, .int 0)] [.ref 9] _ _ _ _
  refine pm_e_rd pm_a16_20 rfl rfl rfl ?_
  show pm_E _ _ _ 23 [(0, .ref 9), (1, .int 0)] [.ref 10] _ _ _ _
  refine pm_e_sim pm_a16_23 rfl ?_
  show pm_E _ _ _ 24 [(0, .ref 9), (1, .int 0)] [.ref 9, .ref 10] _ _ _ _
  refine pm_e_rd pm_a16_24 rfl rfl rfl ?_
  show pm_E _ _ _ 27 [(0, .ref 9), (1, .int 0)] [.int 0, .ref 10] _ _ _ _
  refine pm_e_sim pm_a16_27 rfl ?_
  show pm_E _ _ _ 28 [(0, .ref 9), (1, .int 0)] [.int 0, .int 0, .ref 10] _ _ _ _
  refine pm_e_wr pm_a16_28 rfl rfl rfl rfl rfl ?_
  show pm_E _ _ _ 29 [(0, .ref 9), (1, .int 0)] [] (((((pm_H0.set 3 (.inl (3, 32, .inr (.inr (.inr (.inr _)))))).set 9 (.inr (2, [.ref 10, .ref 11, .ref 12, .ref 1, .int 0, .int 0, .int 0, .int 0, .int 0, .int 0, .int 0, .int 0, .int 0]))).set 10 (.inl (0, 601, .inl _))) ++ [.inr (1, [.ref 51, .int 0, .int 0])]) ++ [.inl (0, 500, .inl _)]) _ _ _
  refine pm_e_sim pm_a16_29 rfl ?_
  show pm_E _ _ _ 30 [(0, .ref 9), (1, .int 0)] [.ref 9] _ _ _ _
  refine pm_e_sim pm_a16_30 rfl ?_
  show pm_E _ _ _ 31 [(0, .ref 9), (1, .int 0)] [.ref 9, .ref 9] _ _ _ _
  refine pm_e_rd pm_a16_31 rfl rfl rfl ?_
  show pm_E _ _ _ 34 [(0, .ref 9), (1, .int 0)] [.int 0, .ref 9] _ _ _ _
  refine pm_e_sim pm_a16_34 rfl ?_
  refine pm_e_top (y := 1) (by decide +kernel) ?_
  show pm_E _ _ _ 35 [(0, .ref 9), (1, .int 0)] [.int 1, .int 0, .ref 9] _ _ _ _
  refine pm_e_sim pm_a16_35 rfl ?_
  refine pm_e_top (y := 1) (by decide +kernel) ?_
  show pm_E _ _ _ 36 [(0, .ref 9), (1, .int 0)] [.int 1, .ref 9] _ _ _ _
  refine pm_e_wr pm_a16_36 rfl rfl rfl rfl rfl ?_
  show pm_E _ _ _ 39 [(0, .ref 9), (1, .int 0)] [] (((((pm_H0.set 3 (.inl (3, 32, .inr (.inr (.inr (.inr _)))))).set 9 (.inr (2, [.ref 10, .ref 11, .ref 12, .ref 1, .int 1, .int 0, .int 0, .int 0, .int 0, .int 0, .int 0, .int 0, .int 0]))).set 10 (.inl (0, 601, .inl _))) ++ [.inr (1, [.ref 51, .int 0, .int 0])]) ++ [.inl (0, 500, .inl _)]) _ _ _
  refine pm_e_ret pm_a16_39 rfl rfl rfl rfl rfl rfl rfl rfl ?_
  show pm_E _ _ _ 13 [(0, .ref 9)] [] _ _ _ _
  refine pm_e_ret pm_a15_13 rfl rfl rfl rfl rfl rfl rfl rfl ?_
  show pm_E _ _ _ 34 [(0, .ref 9), (1, .ref 50)] [] _ _ _ _
  refine pm_e_sim pm_a14_34 rfl ?_
  show pm_E _ _ _ 35 [(0, .ref 9), (1, .ref 50)] [.ref 9] _ _ _ _
  refine pm_e_call (T2 := pm_mm17) pm_a14_35 rfl rfl rfl rfl rfl rfl rfl rfl rfl ?_
  show pm_E _ _ _ 0 [(0, .ref 9)] [] _ _ _ _
  refine pm_e_sim pm_a17_0 rfl ?_
  show pm_E _ _ _ 1 [(0, .ref 9)] [.ref 9] _ _ _ _
  refine pm_e_sim pm_a17_1 rfl ?_
  refine pm_e_top (y := 4) (by decide +kernel) ?_
  show pm_E _ _ _ 2 [(0, .ref 9)] [.int 4, .ref 9] _ _ _ _
  refine pm_e_wr pm_a17_2 rfl rfl rfl rfl rfl ?_
  show pm_E _ _ _ 5 [(0, .ref 9)] [] (((((pm_H0.set 3 (.inl (3, 32, .inr (.inr (.inr (.inr _)))))).set 9 (.inr (2, [.ref 10, .ref 11, .ref 12, .ref 1, .int 1, .int 0, .int 0, .int 0, .int 4, .int 0, .int 0, .int 0, .int 0]))).set 10 (.inl (0, 601, .inl _))) ++ [.inr (1, [.ref 51, .int 0, .int 0])]) ++ [.inl (0, 500, .inl _)]) _ _ _
  refine pm_e_sim pm_a17_5 rfl ?_
  refine pm_e_top (y := 0) (by decide +kernel) ?_
  show pm_E _ _ _ 6 [(0, .ref 9)] [.int 0] _ _ _ _
  refine pm_e_sim pm_a17_6 rfl ?_
  show pm_E _ _ _ 7 [(1, .int 0), (0, .ref 9)] [] _ _ _ _
  refine pm_e_sim pm_a17_7 rfl ?_
  show pm_E _ _ _ 8 [(1, .int 0), (0, .ref 9)] [.int 0] _ _ _ _
  refine pm_e_sim pm_a17_8 rfl ?_
  refine pm_e_top (y := 600) (by decide +kernel) ?_
  show pm_E _ _ _ 11 [(1, .int 0), (0, .ref 9)] [.int 600, .int 0] _ _ _ _
  refine pm_e_icf pm_a17_11 rfl (by decide +kernel) ?_
  show pm_E _ _ _ 14 [(1, .int 0), (0, .ref 9)] [] _ _ _ _
  refine pm_e_sim pm_a17_14 rfl ?_
  show pm_E _ _ _ 15 [(1, .int 0), (0, .ref 9)] [.ref 9] _ _ _ _
  refine pm_e_rd pm_a17_15 rfl rfl rfl ?_
  show pm_E _ _ _ 18 [(1, .int 0), (0, .ref 9)] [.int 4] _ _ _ _
  refine pm_e_iff pm_a17_18 rfl (by decide +kernel) ?_
  show pm_E _ _ _ 21 [(1, .int 0), (0, .ref 9)] [] _ _ _ _
  refine pm_e_sim pm_a17_21 rfl ?_
  show pm_E _ _ _ 22 [(1, .int 0), (0, .ref 9)] [.ref 9] _ _ _ _
  refine pm_e_rd pm_a17_22 rfl rfl rfl ?_
  show pm_E _ _ _ 25 [(1, .int 0), (0, .ref 9)] [.int 0] _ _ _ _
  refine pm_e_iff pm_a17_25 rfl (by decide +kernel) ?_
  show pm_E _ _ _ 28 [(1, .int 0), (0, .ref 9)] [] _ _ _ _
  refine pm_e_sim pm_a17_28 rfl ?_
  show pm_E _ _ _ 29 [(1, .int 0), (0, .ref 9)] [.ref 9] _ _ _ _
  refine pm_e_call (T2 := pm_mm18) pm_a17_29 rfl rfl rfl rfl rfl rfl rfl rfl rfl ?_
  show pm_E _ _ _ 0 [(0, .ref 9)] [] _ _ _ _
  refine pm_e_sim pm_a18_0 rfl ?_
  show pm_E _ _ _ 1 [(0, .ref 9)] [.ref 9] _ _ _ _
  refine pm_e_rd pm_a18_1 rfl rfl rfl ?_
  show pm_E _ _ _ 4 [(0, .ref 9)] [.int 0] _ _ _ _
  refine pm_e_sim pm_a18_4 rfl ?_
  show pm_E _ _ _ 5 [(0, .ref 9)] [.ref 9, .int 0] _ _ _ _
  refine pm_e_rd pm_a18_5 rfl rfl rfl ?_
  show pm_E _ _ _ 8 [(0, .ref 9)] [.ref 1, .int 0] _ _ _ _
  refine pm_e_rd pm_a18_8 rfl rfl rfl ?_
  show pm_E _ _ _ 11 [(0, .ref 9)] [.int 0, .int 0] _ _ _ _
  refine pm_e_ict pm_a18_11 rfl (by decide +kernel) ?_
  show pm_E _ _ _ 43 [(0, .ref 9)] [] _ _ _ _
  refine pm_e_sim pm_a18_43 rfl ?_
  show pm_E _ _ _ 44 [(0, .ref 9)] [.ref 9] _ _ _ _
  refine pm_e_sim pm_a18_44 rfl ?_
  show pm_E _ _ _ 45 [(0, .ref 9)] [.ref 9, .ref 9] _ _ _ _
  refine pm_e_rd pm_a18_45 rfl rfl rfl ?_
  show pm_E _ _ _ 48 [(0, .ref 9)] [.int 0, .ref 9] _ _ _ _
  refine pm_e_wr pm_a18_48 rfl rfl rfl rfl rfl ?_
  show pm_E _ _ _ 51 [(0, .ref 9)] [] (((((pm_H0.set 3 (.inl (3, 32, .inr (.inr (.inr (.inr _)))))).set 9 (.inr (2, [.ref 10, .ref 11, .ref 12, .ref 1, .int 1, .int 0, .int 0, .int 0, .int 4, .int 0, .int 0, .int 0, .int 0]))).set 10 (.inl (0, 601, .inl _))) ++ [.inr (1, [.ref 51, .int 0, .int 0])]) ++ [.inl (0, 500, .inl _)]) _ _ _
  refine pm_e_sim pm_a18_51 rfl ?_
  show pm_E _ _ _ 52 [(0, .ref 9)] [.ref 9] _ _ _ _
  refine pm_e_rd pm_a18_52 rfl rfl rfl ?_
  show pm_E _ _ _ 55 [(0, .ref 9)] [.ref 1] _ _ _ _
  refine pm_e_sim pm_a18_55 rfl ?_
  show pm_E _ _ _ 56 [(0, .ref 9)] [.ref 9, .ref 1] _ _ _ _
  refine pm_e_rd pm_a18_56 rfl rfl rfl ?_
  show pm_E _ _ _ 59 [(0, .ref 9)] [.int 0, .ref 1] _ _ _ _
  refine pm_e_call (T2 := pm_mm19) pm_a18_59 rfl rfl rfl rfl rfl rfl rfl rfl rfl ?_
  show pm_E _ _ _ 0 [(0, .ref 1), (1, .int 0)] [] _ _ _ _
  refine pm_e_sim pm_a19_0 rfl ?_
  show pm_E _ _ _ 1 [(0, .ref 1), (1, .int 0)] [.int 0] _ _ _ _
  refine pm_e_iff pm_a19_1 rfl (by decide +kernel) ?_
  show pm_E _ _ _ 4 [(0, .ref 1), (1, .int 0)] [] _ _ _ _
  refine pm_e_sim pm_a19_4 rfl ?_
  show pm_E _ _ _ 5 [(0, .ref 1), (1, .int 0)] [.int 0] _ _ _ _
  refine pm_e_sim pm_a19_5 rfl ?_
  show pm_E _ _ _ 6 [(0, .ref 1), (1, .int 0)] [.ref 1, .int 0] _ _ _ _
  refine pm_e_rd pm_a19_6 rfl rfl rfl ?_
  show pm_E _ _ _ 9 [(0, .ref 1), (1, .int 0)] [.int 0, .int 0] _ _ _ _
  refine pm_e_ict pm_a19_9 rfl (by decide +kernel) ?_
  show pm_E _ _ _ 30 [(0, .ref 1), (1, .int 0)] [] _ _ _ _
  refine pm_e_sim pm_a19_30 rfl ?_
  refine pm_e_top (y := (-1)) (by decide +kernel) ?_
  show pm_E _ _ _ 31 [(0, .ref 1), (1, .int 0)] [.int (-1)] _ _ _ _
  refine pm_e_ret pm_a19_31 rfl rfl rfl rfl rfl rfl rfl rfl ?_
  show pm_E _ _ _ 62 [(0, .ref 9)] [.int (-1)] _ _ _ _
  refine pm_e_sim pm_a18_62 rfl ?_
  show pm_E _ _ _ 63 [(1, .int (-1)), (0, .ref 9)] [] _ _ _ _
  refine pm_e_sim pm_a18_63 rfl ?_
  show pm_E _ _ _ 64 [(1, .int (-1)), (0, .ref 9)] [.ref 9] _ _ _ _
  refine pm_e_rd pm_a18_64 rfl rfl rfl ?_
  show pm_E _ _ _ 67 [(1, .int (-1)), (0, .ref 9)] [.int 0] _ _ _ _
  refine pm_e_sim pm_a18_67 rfl ?_
  show pm_E _ _ _ 68 [(1, .int (-1)), (0, .ref 9)] [.ref 9, .int 0] _ _ _ _
  refine pm_e_rd pm_a18_68 rfl rfl rfl ?_
  show pm_E _ _ _ 71 [(1, .int (-1)), (0, .ref 9)] [.ref 1, .int 0] _ _ _ _
  refine pm_e_rd pm_a18_71 rfl rfl rfl ?_
  show pm_E _ _ _ 74 [(1, .int (-1)), (0, .ref 9)] [.int 0, .int 0] _ _ _ _
  refine pm_e_icf pm_a18_74 rfl (by decide +kernel) ?_
  show pm_E _ _ _ 77 [(1, .int (-1)), (0, .ref 9)] [] _ _ _ _
  refine pm_e_sim pm_a18_77 rfl ?_
  show pm_E _ _ _ 78 [(1, .int (-1)), (0, .ref 9)] [.ref 9] _ _ _ _
  refine pm_e_sim pm_a18_78 rfl ?_
  refine pm_e_top (y := 0) (by decide +kernel) ?_
  show pm_E _ _ _ 79 [(1, .int (-1)), (0, .ref 9)] [.int 0, .ref 9] _ _ _ _
  refine pm_e_wr pm_a18_79 rfl rfl rfl rfl rfl ?_
  show pm_E _ _ _ 82 [(1, .int (-1)), (0, .ref 9)] [] (((((pm_H0.set 3 (.inl (3, 32, .inr (.inr (.inr (.inr _)))))).set 9 (.inr (2, [.ref 10, .ref 11, .ref 12, .ref 1, .int 1, .int 0, .int 0, .int 0, .int 0, .int 0, .int 0, .int 0, .int 0]))).set 10 (.inl (0, 601, .inl _))) ++ [.inr (1, [.ref 51, .int 0, .int 0])]) ++ [.inl (0, 500, .inl _)]) _ _ _
  refine pm_e_goto pm_a18_82 rfl ?_
  show pm_E _ _ _ 188 [(1, .int (-1)), (0, .ref 9)] [] _ _ _ _
  refine pm_e_ret pm_a18_188 rfl rfl rfl rfl rfl rfl rfl rfl ?_
  show pm_E _ _ _ 32 [(1, .int 0), (0, .ref 9)] [] _ _ _ _
  refine pm_e_sim pm_a17_32 rfl ?_
  show pm_E _ _ _ 33 [(1, .int 0), (0, .ref 9)] [.ref 9] _ _ _ _
  refine pm_e_rd pm_a17_33 rfl rfl rfl ?_
  show pm_E _ _ _ 36 [(1, .int 0), (0, .ref 9)] [.int 0] _ _ _ _
  refine pm_e_iff pm_a17_36 rfl (by decide +kernel) ?_
  show pm_E _ _ _ 39 [(1, .int 0), (0, .ref 9)] [] _ _ _ _
  refine pm_e_sim pm_a17_39 rfl ?_
  show pm_E _ _ _ 40 [(1, .int 0), (0, .ref 9)] [.ref 9] _ _ _ _
  refine pm_e_call (T2 := pm_mm21) pm_a17_40 rfl rfl rfl rfl rfl rfl rfl rfl rfl ?_
  show pm_E _ _ _ 0 [(0, .ref 9)] [] _ _ _ _
  refine pm_e_sim pm_a21_0 rfl ?_
  show pm_E _ _ _ 1 [(0, .ref 9)] [.ref 9] _ _ _ _
  refine pm_e_rd pm_a21_1 rfl rfl rfl ?_
  show pm_E _ _ _ 4 [(0, .ref 9)] [.int 0] _ _ _ _
  refine pm_e_ift pm_a21_4 rfl (by decide +kernel) ?_
  show pm_E _ _ _ 12 [(0, .ref 9)] [] _ _ _ _
  refine pm_e_sim pm_a21_12 rfl ?_
  show pm_E _ _ _ 13 [(0, .ref 9)] [.ref 9] _ _ _ _
  refine pm_e_rd pm_a21_13 rfl rfl rfl ?_
  show pm_E _ _ _ 16 [(0, .ref 9)] [.int 0] _ _ _ _
  refine pm_e_tsi (t := 114) pm_a21_16 rfl (by decide +kernel) ?_
  show pm_E _ _ _ 114 [(0, .ref 9)] [] _ _ _ _
  refine pm_e_sim pm_a21_114 rfl ?_
  show pm_E _ _ _ 115 [(0, .ref 9)] [.ref 9] _ _ _ _
  refine pm_e_call (T2 := pm_mm23) pm_a21_115 rfl rfl rfl rfl rfl rfl rfl rfl rfl ?_
  show pm_E _ _ _ 0 [(0, .ref 9)] [] _ _ _ _
  refine pm_e_sim pm_a23_0 rfl ?_
  show pm_E _ _ _ 1 [(0, .ref 9)] [.ref 9] _ _ _ _
  refine pm_e_call (T2 := pm_mm22) pm_a23_1 rfl rfl rfl rfl rfl rfl rfl rfl rfl ?_
  show pm_E _ _ _ 0 [(0, .ref 9)] [] _ _ _ _
  refine pm_e_sim pm_a22_0 rfl ?_
  show pm_E _ _ _ 1 [(0, .ref 9)] [.ref 9] _ _ _ _
  refine pm_e_rd pm_a22_1 rfl rfl rfl ?_
  show pm_E _ _ _ 4 [(0, .ref 9)] [.int 0] _ _ _ _
  refine pm_e_iff pm_a22_4 rfl (by decide +kernel) ?_
  show pm_E _ _ _ 7 [(0, .ref 9)] [] _ _ _ _
  refine pm_e_sim pm_a22_7 rfl ?_
  show pm_E _ _ _ 8 [(0, .ref 9)] [.ref 9] _ _ _ _
  refine pm_e_rd pm_a22_8 rfl rfl rfl ?_
  show pm_E _ _ _ 11 [(0, .ref 9)] [.int 0] _ _ _ _
  refine pm_e_sim pm_a22_11 rfl ?_
  show pm_E _ _ _ 12 [(0, .ref 9)] [.ref 9, .int 0] _ _ _ _
  refine pm_e_rd pm_a22_12 rfl rfl rfl ?_
  show pm_E _ _ _ 15 [(0, .ref 9)] [.ref 10, .int 0] _ _ _ _
  refine pm_e_rd pm_a22_15 rfl rfl rfl ?_
  dsimp only
  refine pm_e_top (y := 601) (by decide +kernel) ?_
  show pm_E _ _ _ 16 [(0, .ref 9)] [.int 601, .int 0] _ _ _ _
  refine pm_e_icf pm_a22_16 rfl (by decide +kernel) ?_
  show pm_E _ _ _ 19 [(0, .ref 9)] [] _ _ _ _
  refine pm_e_sim pm_a22_19 rfl ?_
  show pm_E _ _ _ 20 [(0, .ref 9)] [.ref 9] _ _ _ _
  refine pm_e_rd pm_a22_20 rfl rfl rfl ?_
  show pm_E _ _ _ 23 [(0, .ref 9)] [.ref 10] _ _ _ _
  refine pm_e_sim pm_a22_23 rfl ?_
  show pm_E _ _ _ 24 [(0, .ref 9)] [.ref 9, .ref 10] _ _ _ _
  refine pm_e_rd pm_a22_24 rfl rfl rfl ?_
  show pm_E _ _ _ 27 [(0, .ref 9)] [.int 0, .ref 10] _ _ _ _
  refine pm_e_rd pm_a22_27 rfl rfl rfl ?_
  show pm_E _ _ _ 28 [(0, .ref 9)] [.int 0] _ _ _ _
  refine pm_e_iff pm_a22_28 rfl (by decide +kernel) ?_
  show pm_E _ _ _ 31 [(0, .ref 9)] [] _ _ _ _
  refine pm_e_sim pm_a22_31 rfl ?_
  refine pm_e_top (y := 1) (by decide +kernel) ?_
  show pm_E _ _ _ 32 [(0, .ref 9)] [.int 1] _ _ _ _
  refine pm_e_goto pm_a22_32 rfl ?_
  show pm_E _ _ _ 36 [(0, .ref 9)] [.int 1] _ _ _ _
  refine pm_e_ret pm_a22_36 rfl rfl rfl rfl rfl rfl rfl rfl ?_
  show pm_E _ _ _ 4 [(0, .ref 9)] [.int 1] _ _ _ _
  refine pm_e_ift pm_a23_4 rfl (by decide +kernel) ?_
  show pm_E _ _ _ 14 [(0, .ref 9)] [] _ _ _ _
  refine pm_e_sim pm_a23_14 rfl ?_
  show pm_E _ _ _ 15 [(0, .ref 9)] [.ref 9] _ _ _ _
  refine pm_e_sim pm_a23_15 rfl ?_
  refine pm_e_top (y := 2) (by decide +kernel) ?_
  show pm_E _ _ _ 16 [(0, .ref 9)] [.int 2, .ref 9] _ _ _ _
  refine pm_e_call (T2 := pm_mm20) pm_a23_16 rfl rfl rfl rfl rfl rfl rfl rfl rfl ?_
  show pm_E _ _ _ 0 [(0, .ref 9), (1, .int 2)] [] _ _ _ _
  refine pm_e_sim pm_a20_0 rfl ?_
  show pm_E _ _ _ 1 [(0, .ref 9), (1, .int 2)] [.ref 9] _ _ _ _
  refine pm_e_sim pm_a20_1 rfl ?_
  show pm_E _ _ _ 2 [(0, .ref 9), (1, .int 2)] [.int 2, .ref 9] _ _ _ _
  refine pm_e_wr pm_a20_2 rfl rfl rfl rfl rfl ?_
  show pm_E _ _ _ 5 [(0, .ref 9), (1, .int 2)] [] (((((pm_H0.set 3 (.inl (3, 32, .inr (.inr (.inr (.inr _)))))).set 9 (.inr (2, [.ref 10, .ref 11, .ref 12, .ref 1, .int 1, .int 0, .int 0, .int 0, .int 0, .int 0, .int 0, .int 2, .int 0]))).set 10 (.inl (0, 601, .inl _))) ++ [.inr (1, [.ref 51, .int 0, .int 0])]) ++ [.inl (0, 500, .inl _)]) _ _ _
  refine pm_e_sim pm_a20_5 rfl ?_
  show pm_E _ _ _ 6 [(0, .ref 9), (1, .int 2)] [.ref 9] _ _ _ _
  refine pm_e_sim pm_a20_6 rfl ?_
  show pm_E _ _ _ 7 [(0, .ref 9), (1, .int 2)] [.ref 9, .ref 9] _ _ _ _
  refine pm_e_rd pm_a20_7 rfl rfl rfl ?_
  show pm_E _ _ _ 10 [(0, .ref 9), (1, .int 2)] [.int 0, .ref 9] _ _ _ _
  refine pm_e_wr pm_a20_10 rfl rfl rfl rfl rfl ?_
  show pm_E _ _ _ 13 [(0, .ref 9), (1, .int 2)] [] (((((pm_H0.set 3 (.inl (3, 32, .inr (.inr (.inr (.inr _)))))).set 9 (.inr (2, [.ref 10, .ref 11, .ref 12, .ref 1, .int 1, .int 0, .int 0, .int 0, .int 0, .int 0, .int 0, .int 2, .int 0]))).set 10 (.inl (0, 601, .inl _))) ++ [.inr (1, [.ref 51, .int 0, .int 0])]) ++ [.inl (0, 500, .inl _)]) _ _ _
  refine pm_e_ret pm_a20_13 rfl rfl rfl rfl rfl rfl rfl rfl ?_
  show pm_E _ _ _ 19 [(0, .ref 9)] [] _ _ _ _
  refine pm_e_ret pm_a23_19 rfl rfl rfl rfl rfl rfl rfl rfl ?_
  show pm_E _ _ _ 118 [(0, .ref 9)] [] _ _ _ _
  refine pm_e_ret pm_a21_118 rfl rfl rfl rfl rfl rfl rfl rfl ?_
  show pm_E _ _ _ 43 [(1, .int 0), (0, .ref 9)] [] _ _ _ _
  refine pm_e_inc (y := 1) pm_a17_43 rfl (by decide +kernel) (by decide +kernel) rfl ?_
  show pm_E _ _ _ 46 [(1, .int 1), (0, .ref 9)] [] _ _ _ _
  refine pm_e_goto pm_a17_46 rfl ?_
  show pm_E _ _ _ 7 [(1, .int 1), (0, .ref 9)] [] _ _ _ _
  refine pm_e_sim pm_a17_7 rfl ?_
  show pm_E _ _ _ 8 [(1, .int 1), (0, .ref 9)] [.int 1] _ _ _ _
  refine pm_e_sim pm_a17_8 rfl ?_
  refine pm_e_top (y := 600) (by decide +kernel) ?_
  show pm_E _ _ _ 11 [(1, .int 1), (0, .ref 9)] [.int 600, .int 1] _ _ _ _
  refine pm_e_icf pm_a17_11 rfl (by decide +kernel) ?_
  show pm_E _ _ _ 14 [(1, .int 1), (0, .ref 9)] [] _ _ _ _
  refine pm_e_sim pm_a17_14 rfl ?_
  show pm_E _ _ _ 15 [(1, .int 1), (0, .ref 9)] [.ref 9] _ _ _ _
  refine pm_e_rd pm_a17_15 rfl rfl rfl ?_
  show pm_E _ _ _ 18 [(1, .int 1), (0, .ref 9)] [.int 0] _ _ _ _
  refine pm_e_ift pm_a17_18 rfl (by decide +kernel) ?_
  show pm_E _ _ _ 49 [(1, .int 1), (0, .ref 9)] [] _ _ _ _
  refine pm_e_ret pm_a17_49 rfl rfl rfl rfl rfl rfl rfl rfl ?_
  show pm_E _ _ _ 38 [(0, .ref 9), (1, .ref 50)] [] _ _ _ _
  refine pm_e_sim pm_a14_38 rfl ?_
  show pm_E _ _ _ 39 [(0, .ref 9), (1, .ref 50)] [.ref 9] _ _ _ _
  refine pm_e_rd pm_a14_39 rfl rfl rfl ?_
  show pm_E _ _ _ 42 [(0, .ref 9), (1, .ref 50)] [.int 2] _ _ _ _
  refine pm_e_ift pm_a14_42 rfl (by decide +kernel) ?_
  show pm_E _ _ _ 50 [(0, .ref 9), (1, .ref 50)] [] _ _ _ _
  refine pm_e_sim pm_a14_50 rfl ?_
  show pm_E _ _ _ 51 [(0, .ref 9), (1, .ref 50)] [.ref 9] _ _ _ _
  refine pm_e_rd pm_a14_51 rfl rfl rfl ?_
  show pm_E _ _ _ 54 [(0, .ref 9), (1, .ref 50)] [.int 2] _ _ _ _
  refine pm_e_ret pm_a14_54 rfl rfl rfl rfl rfl rfl rfl rfl ?_
  show pm_E _ _ _ 21 [(1, .ref 50), (0, .ref 0)] [.int 2, .ref 0] _ _ _ _
  refine pm_e_wr pm_a11_21 rfl rfl rfl rfl rfl ?_
  show pm_E _ _ _ 24 [(1, .ref 50), (0, .ref 0)] [] ((((((pm_H0.set 0 (.inr (8, [.ref 1, .ref 3, .ref 4, .ref 6, .ref 9, .ref 13, .ref 15, .null, .null, .int 0, .int 2, .int 0, .int 0]))).set 3 (.inl (3, 32, .inr (.inr (.inr (.inr _)))))).set 9 (.inr (2, [.ref 10, .ref 11, .ref 12, .ref 1, .int 1, .int 0, .int 0, .int 0, .int 0, .int 0, .int 0, .int 2, .int 0]))).set 10 (.inl (0, 601, .inl _))) ++ [.inr (1, [.ref 51, .int 0, .int 0])]) ++ [.inl (0, 500, .inl _)]) _ _ _
  refine pm_e_sim pm_a11_24 rfl ?_
  show pm_E _ _ _ 25 [(1, .ref 50), (0, .ref 0)] [.ref 0] _ _ _ _
  refine pm_e_rd pm_a11_25 rfl rfl rfl ?_
  show pm_E _ _ _ 28 [(1, .ref 50), (0, .ref 0)] [.ref 1] _ _ _ _
  refine pm_e_sim pm_a11_28 rfl ?_
  refine pm_e_top (y := 0) (by decide +kernel) ?_
  show pm_E _ _ _ 29 [(1, .ref 50), (0, .ref 0)] [.int 0, .ref 1] _ _ _ _
  refine pm_e_wr pm_a11_29 rfl rfl rfl rfl rfl ?_
  show pm_E _ _ _ 32 [(1, .ref 50), (0, .ref 0)] [] (((((((pm_H0.set 0 (.inr (8, [.ref 1, .ref 3, .ref 4, .ref 6, .ref 9, .ref 13, .ref 15, .null, .null, .int 0, .int 2, .int 0, .int 0]))).set 1 (.inr (4, [.ref 2, .int 0]))).set 3 (.inl (3, 32, .inr (.inr (.inr (.inr _)))))).set 9 (.inr (2, [.ref 10, .ref 11, .ref 12, .ref 1, .int 1, .int 0, .int 0, .int 0, .int 0, .int 0, .int 0, .int 2, .int 0]))).set 10 (.inl (0, 601, .inl _))) ++ [.inr (1, [.ref 51, .int 0, .int 0])]) ++ [.inl (0, 500, .inl _)]) _ _ _
  refine pm_e_sim pm_a11_32 rfl ?_
  show pm_E _ _ _ 33 [(1, .ref 50), (0, .ref 0)] [.ref 0] _ _ _ _
  refine pm_e_rd pm_a11_33 rfl rfl rfl ?_
  show pm_E _ _ _ 36 [(1, .ref 50), (0, .ref 0)] [.int 2] _ _ _ _
  refine pm_e_ift pm_a11_36 rfl (by decide +kernel) ?_
  show pm_E _ _ _ 46 [(1, .ref 50), (0, .ref 0)] [] _ _ _ _
  refine pm_e_sim pm_a11_46 rfl ?_
  refine pm_e_top (y := (-10)) (by decide +kernel) ?_
  show pm_E _ _ _ 48 [(1, .ref 50), (0, .ref 0)] [.int (-10)] _ _ _ _
  refine pm_e_sim pm_a11_48 rfl ?_
  show pm_E _ _ _ 49 [(1, .ref 50), (0, .ref 0)] [.ref 0, .int (-10)] _ _ _ _
  refine pm_e_rd pm_a11_49 rfl rfl rfl ?_
  show pm_E _ _ _ 52 [(1, .ref 50), (0, .ref 0)] [.ref 9, .int (-10)] _ _ _ _
  refine pm_e_rd pm_a11_52 rfl rfl rfl ?_
  show pm_E _ _ _ 55 [(1, .ref 50), (0, .ref 0)] [.int 0, .int (-10)] _ _ _ _
  refine pm_e_sim pm_a11_55 rfl ?_
  refine pm_e_top (y := (-10)) (by decide +kernel) ?_
  show pm_E _ _ _ 56 [(1, .ref 50), (0, .ref 0)] [.int (-10)] _ _ _ _
  refine pm_e_ret pm_a11_56 rfl rfl rfl rfl rfl rfl rfl rfl ?_
  show pm_E _ _ _ 230 [(3, .int 0), (2, .ref 18), (1, .ref 0), (0, .retAddr 0)] [.int (-10)] _ _ _ _
  refine pm_e_sim pm_a0_230 rfl ?_
  show pm_E _ _ _ 231 [(3, .int 0), (2, .ref 18), (1, .ref 0), (0, .retAddr 0)] [.ref 18, .int (-10)] _ _ _ _
  refine pm_e_call (T2 := pm_mm51) pm_a0_231 rfl rfl rfl rfl rfl rfl rfl rfl rfl ?_
  show pm_E _ _ _ 0 [(0, .ref 18)] [] _ _ _ _
  refine pm_e_sim pm_a51_0 rfl ?_
  show pm_E _ _ _ 1 [(0, .ref 18)] [.ref 18] _ _ _ _
  refine pm_e_rd pm_a51_1 rfl rfl rfl ?_
  show pm_E _ _ _ 4 [(0, .ref 18)] [.int 0] _ _ _ _
  refine pm_e_sim pm_a51_4 rfl ?_
  refine pm_e_top (y := 32) (by decide +kernel) ?_
  show pm_E _ _ _ 6 [(0, .ref 18)] [.int 32, .int 0] _ _ _ _
  refine pm_e_ict pm_a51_6 rfl (by decide +kernel) ?_
  show pm_E _ _ _ 12 [(0, .ref 18)] [] _ _ _ _
  refine pm_e_sim pm_a51_12 rfl ?_
  show pm_E _ _ _ 13 [(0, .ref 18)] [.ref 18] _ _ _ _
  refine pm_e_sim pm_a51_13 rfl ?_
  refine pm_e_top (y := 0) (by decide +kernel) ?_
  show pm_E _ _ _ 14 [(0, .ref 18)] [.int 0, .ref 18] _ _ _ _
  refine pm_e_wr pm_a51_14 rfl rfl rfl rfl rfl ?_
  show pm_E _ _ _ 17 [(0, .ref 18)] [] ((((((((pm_H0.set 0 (.inr (8, [.ref 1, .ref 3, .ref 4, .ref 6, .ref 9, .ref 13, .ref 15, .null, .null, .int 0, .int 2, .int 0, .int 0]))).set 1 (.inr (4, [.ref 2, .int 0]))).set 3 (.inl (3, 32, .inr (.inr (.inr (.inr _)))))).set 9 (.inr (2, [.ref 10, .ref 11, .ref 12, .ref 1, .int 1, .int 0, .int 0, .int 0, .int 0, .int 0, .int 0, .int 2, .int 0]))).set 10 (.inl (0, 601, .inl _))).set 18 (.inr (9, pm_f9.set 13 (.int 0)))) ++ [.inr (1, [.ref 51, .int 0, .int 0])]) ++ [.inl (0, 500, .inl _)]) _ _ _
  refine pm_e_sim pm_a51_17 rfl ?_
  show pm_E _ _ _ 18 [(0, .ref 18)] [.ref 18] _ _ _ _
  refine pm_e_call (T2 := pm_mm52) pm_a51_18 rfl rfl rfl rfl rfl rfl rfl rfl rfl ?_
  show pm_E _ _ _ 0 [(0, .ref 18)] [] _ _ _ _
  refine pm_e_sim pm_a52_0 rfl ?_
  show pm_E _ _ _ 1 [(0, .ref 18)] [.ref 18] _ _ _ _
  refine pm_e_sim pm_a52_1 rfl ?_
  refine pm_e_top (y := 0) (by decide +kernel) ?_
  show pm_E _ _ _ 2 [(0, .ref 18)] [.int 0, .ref 18] _ _ _ _
  refine pm_e_wr pm_a52_2 rfl rfl rfl rfl rfl ?_
  show pm_E _ _ _ 5 [(0, .ref 18)] [] ((((((((pm_H0.set 0 (.inr (8, [.ref 1, .ref 3, .ref 4, .ref 6, .ref 9, .ref 13, .ref 15, .null, .null, .int 0, .int 2, .int 0, .int 0]))).set 1 (.inr (4, [.ref 2, .int 0]))).set 3 (.inl (3, 32, .inr (.inr (.inr (.inr _)))))).set 9 (.inr (2, [.ref 10, .ref 11, .ref 12, .ref 1, .int 1, .int 0, .int 0, .int 0, .int 0, .int 0, .int 0, .int 2, .int 0]))).set 10 (.inl (0, 601, .inl _))).set 18 (.inr (9, (pm_f9.set 9 (.int 0)).set 13 (.int 0)))) ++ [.inr (1, [.ref 51, .int 0, .int 0])]) ++ [.inl (0, 500, .inl _)]) _ _ _
  refine pm_e_sim pm_a52_5 rfl ?_
  show pm_E _ _ _ 6 [(0, .ref 18)] [.ref 18] _ _ _ _
  refine pm_e_sim pm_a52_6 rfl ?_
  refine pm_e_top (y := 0) (by decide +kernel) ?_
  show pm_E _ _ _ 7 [(0, .ref 18)] [.int 0, .ref 18] _ _ _ _
  refine pm_e_wr pm_a52_7 rfl rfl rfl rfl rfl ?_
  show pm_E _ _ _ 10 [(0, .ref 18)] [] ((((((((pm_H0.set 0 (.inr (8, [.ref 1, .ref 3, .ref 4, .ref 6, .ref 9, .ref 13, .ref 15, .null, .null, .int 0, .int 2, .int 0, .int 0]))).set 1 (.inr (4, [.ref 2, .int 0]))).set 3 (.inl (3, 32, .inr (.inr (.inr (.inr _)))))).set 9 (.inr (2, [.ref 10, .ref 11, .ref 12, .ref 1, .int 1, .int 0, .int 0, .int 0, .int 0, .int 0, .int 0, .int 2, .int 0]))).set 10 (.inl (0, 601, .inl _))).set 18 (.inr (9, ((pm_f9.set 6 (.int 0)).set 9 (.int 0)).set 13 (.int 0)))) ++ [.inr (1, [.ref 51, .int 0, .int 0])]) ++ [.inl (0, 500, .inl _)]) _ _ _
  refine pm_e_sim pm_a52_10 rfl ?_
  show pm_E _ _ _ 11 [(0, .ref 18)] [.ref 18] _ _ _ _
  refine pm_e_sim pm_a52_11 rfl ?_
  refine pm_e_top (y := 0) (by decide +kernel) ?_
  show pm_E _ _ _ 12 [(0, .ref 18)] [.int 0, .ref 18] _ _ _ _
  refine pm_e_wr pm_a52_12 rfl rfl rfl rfl rfl ?_
  show pm_E _ _ _ 15 [(0, .ref 18)] [] ((((((((pm_H0.set 0 (.inr (8, [.ref 1, .ref 3, .ref 4, .ref 6, .ref 9, .ref 13, .ref 15, .null, .null, .int 0, .int 2, .int 0, .int 0]))).set 1 (.inr (4, [.ref 2, .int 0]))).set 3 (.inl (3, 32, .inr (.inr (.inr (.inr _)))))).set 9 (.inr (2, [.ref 10, .ref 11, .ref 12, .ref 1, .int 1, .int 0, .int 0, .int 0, .int 0, .int 0, .int 0, .int 2, .int 0]))).set 10 (.inl (0, 601, .inl _))).set 18 (.inr (9, (((pm_f9.set 6 (.int 0)).set 9 (.int 0)).set 13 (.int 0)).set 18 (.int 0)))) ++ [.inr (1, [.ref 51, .int 0, .int 0])]) ++ [.inl (0, 500, .inl _)]) _ _ _
  refine pm_e_sim pm_a52_15 rfl ?_
  show pm_E _ _ _ 16 [(0, .ref 18)] [.ref 18] _ _ _ _
  refine pm_e_sim pm_a52_16 rfl ?_
  refine pm_e_top (y := 0) (by decide +kernel) ?_
  show pm_E _ _ _ 17 [(0, .ref 18)] [.int 0, .ref 18] _ _ _ _
  refine pm_e_wr pm_a52_17 rfl rfl rfl rfl rfl ?_
  show pm_E _ _ _ 20 [(0, .ref 18)] [] ((((((((pm_H0.set 0 (.inr (8, [.ref 1, .ref 3, .ref 4, .ref 6, .ref 9, .ref 13, .ref 15, .null, .null, .int 0, .int 2, .int 0, .int 0]))).set 1 (.inr (4, [.ref 2, .int 0]))).set 3 (.inl (3, 32, .inr (.inr (.inr (.inr _)))))).set 9 (.inr (2, [.ref 10, .ref 11, .ref 12, .ref 1, .int 1, .int 0, .int 0, .int 0, .int 0, .int 0, .int 0, .int 2, .int 0]))).set 10 (.inl (0, 601, .inl _))).set 18 (.inr (9, ((((pm_f9.set 6 (.int 0)).set 9 (.int 0)).set 13 (.int 0)).set 18 (.int 0)).set 20 (.int 0)))) ++ [.inr (1, [.ref 51, .int 0, .int 0])]) ++ [.inl (0, 500, .inl _)]) _ _ _
  refine pm_e_sim pm_a52_20 rfl ?_
  show pm_E _ _ _ 21 [(0, .ref 18)] [.ref 18] _ _ _ _
  refine pm_e_sim pm_a52_21 rfl ?_
  refine pm_e_top (y := 0) (by decide +kernel) ?_
  show pm_E _ _ _ 22 [(0, .ref 18)] [.int 0, .ref 18] _ _ _ _
  refine pm_e_wr pm_a52_22 rfl rfl rfl rfl rfl ?_
  show pm_E _ _ _ 25 [(0, .ref 18)] [] ((((((((pm_H0.set 0 (.inr (8, [.ref 1, .ref 3, .ref 4, .ref 6, .ref 9, .ref 13, .ref 15, .null, .null, .int 0, .int 2, .int 0, .int 0]))).set 1 (.inr (4, [.ref 2, .int 0]))).set 3 (.inl (3, 32, .inr (.inr (.inr (.inr _)))))).set 9 (.inr (2, [.ref 10, .ref 11, .ref 12, .ref 1, .int 1, .int 0, .int 0, .int 0, .int 0, .int 0, .int 0, .int 2, .int 0]))).set 10 (.inl (0, 601, .inl _))).set 18 (.inr (9, (((((pm_f9.set 6 (.int 0)).set 9 (.int 0)).set 13 (.int 0)).set 18 (.int 0)).set 20 (.int 0)).set 21 (.int 0)))) ++ [.inr (1, [.ref 51, .int 0, .int 0])]) ++ [.inl (0, 500, .inl _)]) _ _ _
  refine pm_e_sim pm_a52_25 rfl ?_
  show pm_E _ _ _ 26 [(0, .ref 18)] [.ref 18] _ _ _ _
  refine pm_e_sim pm_a52_26 rfl ?_
  refine pm_e_top (y := (-1)) (by decide +kernel) ?_
  show pm_E _ _ _ 27 [(0, .ref 18)] [.int (-1), .ref 18] _ _ _ _
  refine pm_e_call (T2 := pm_mm53) pm_a52_27 rfl rfl rfl rfl rfl rfl rfl rfl rfl ?_
  show pm_E _ _ _ 0 [(0, .ref 18), (1, .int (-1))] [] _ _ _ _
  refine pm_e_sim pm_a53_0 rfl ?_
  show pm_E _ _ _ 1 [(0, .ref 18), (1, .int (-1))] [.ref 18] _ _ _ _
  refine pm_e_rd pm_a53_1 rfl rfl rfl ?_
  show pm_E _ _ _ 4 [(0, .ref 18), (1, .int (-1))] [.ref 25] _ _ _ _
  refine pm_e_sim pm_a53_4 rfl ?_
  show pm_E _ _ _ 5 [(0, .ref 18), (1, .int (-1))] [.ref 18, .ref 25] _ _ _ _
  refine pm_e_rd pm_a53_5 rfl rfl rfl ?_
  show pm_E _ _ _ 8 [(0, .ref 18), (1, .int (-1))] [.int 0, .ref 25] _ _ _ _
  refine pm_e_sim pm_a53_8 rfl ?_
  show pm_E _ _ _ 9 [(0, .ref 18), (1, .int (-1))] [.ref 18, .int 0, .ref 25] _ _ _ _
  refine pm_e_rd pm_a53_9 rfl rfl rfl ?_
  show pm_E _ _ _ 12 [(0, .ref 18), (1, .int (-1))] [.int 0, .int 0, .ref 25] _ _ _ _
  refine pm_e_wr pm_a53_12 rfl rfl rfl rfl rfl ?_
  show pm_E _ _ _ 13 [(0, .ref 18), (1, .int (-1))] [] (((((((((pm_H0.set 0 (.inr (8, [.ref 1, .ref 3, .ref 4, .ref 6, .ref 9, .ref 13, .ref 15, .null, .null, .int 0, .int 2, .int 0, .int 0]))).set 1 (.inr (4, [.ref 2, .int 0]))).set 3 (.inl (3, 32, .inr (.inr (.inr (.inr _)))))).set 9 (.inr (2, [.ref 10, .ref 11, .ref 12, .ref 1, .int 1, .int 0, .int 0, .int 0, .int 0, .int 0, .int 0, .int 2, .int 0]))).set 10 (.inl (0, 601, .inl _))).set 18 (.inr (9, (((((pm_f9.set 6 (.int 0)).set 9 (.int 0)).set 13 (.int 0)).set 18 (.int 0)).set 20 (.int 0)).set 21 (.int 0)))).set 25 (.inl (0, 90, .inl _))) ++ [.inr (1, [.ref 51, .int 0, .int 0])]) ++ [.inl (0, 500, .inl _)]) _ _ _
  refine pm_e_sim pm_a53_13 rfl ?_
  show pm_E _ _ _ 14 [(0, .ref 18), (1, .int (-1))] [.ref 18] _ _ _ _
  refine pm_e_rd pm_a53_14 rfl rfl rfl ?_
  show pm_E _ _ _ 17 [(0, .ref 18), (1, .int (-1))] [.ref 26] _ _ _ _
  refine pm_e_sim pm_a53_17 rfl ?_
  show pm_E _ _ _ 18 [(0, .ref 18), (1, .int (-1))] [.ref 18, .ref 26] _ _ _ _
  refine pm_e_rd pm_a53_18 rfl rfl rfl ?_
  show pm_E _ _ _ 21 [(0, .ref 18), (1, .int (-1))] [.int 0, .ref 26] _ _ _ _
  refine pm_e_sim pm_a53_21 rfl ?_
  refine pm_e_top (y := 0) (by decide +kernel) ?_
  show pm_E _ _ _ 22 [(0, .ref 18), (1, .int (-1))] [.int 0, .int 0, .ref 26] _ _ _ _
  refine pm_e_wr pm_a53_22 rfl rfl rfl rfl rfl ?_
  show pm_E _ _ _ 23 [(0, .ref 18), (1, .int (-1))] [] ((((((((((pm_H0.set 0 (.inr (8, [.ref 1, .ref 3, .ref 4, .ref 6, .ref 9, .ref 13, .ref 15, .null, .null, .int 0, .int 2, .int 0, .int 0]))).set 1 (.inr (4, [.ref 2, .int 0]))).set 3 (.inl (3, 32, .inr (.inr (.inr (.inr _)))))).set 9 (.inr (2, [.ref 10, .ref 11, .ref 12, .ref 1, .int 1, .int 0, .int 0, .int 0, .int 0, .int 0, .int 0, .int 2, .int 0]))).set 10 (.inl (0, 601, .inl _))).set 18 (.inr (9, (((((pm_f9.set 6 (.int 0)).set 9 (.int 0)).set 13 (.int 0)).set 18 (.int 0)).set 20 (.int 0)).set 21 (.int 0)))).set 25 (.inl (0, 90, .inl _))).set 26 (.inl (1, 90, .inl _))) ++ [.inr (1, [.ref 51, .int 0, .int 0])]) ++ [.inl (0, 500, .inl _)]) _ _ _
  refine pm_e_sim pm_a53_23 rfl ?_
  show pm_E _ _ _ 24 [(0, .ref 18), (1, .int (-1))] [.ref 18] _ _ _ _
  refine pm_e_rd pm_a53_24 rfl rfl rfl ?_
  show pm_E _ _ _ 27 [(0, .ref 18), (1, .int (-1))] [.ref 27] _ _ _ _
  refine pm_e_sim pm_a53_27 rfl ?_
  show pm_E _ _ _ 28 [(0, .ref 18), (1, .int (-1))] [.ref 18, .ref 27] _ _ _ _
  refine pm_e_rd pm_a53_28 rfl rfl rfl ?_
  show pm_E _ _ _ 31 [(0, .ref 18), (1, .int (-1))] [.int 0, .ref 27] _ _ _ _
  refine pm_e_sim pm_a53_31 rfl ?_
  show pm_E _ _ _ 32 [(0, .ref 18), (1, .int (-1))] [.int (-1), .int 0, .ref 27] _ _ _ _
  refine pm_e_wr pm_a53_32 rfl rfl rfl rfl rfl ?_
  show pm_E _ _ _ 33 [(0, .ref 18), (1, .int (-1))] [] (((((((((((pm_H0.set 0 (.inr (8, [.ref 1, .ref 3, .ref 4, .ref 6, .ref 9, .ref 13, .ref 15, .null, .null, .int 0, .int 2, .int 0, .int 0]))).set 1 (.inr (4, [.ref 2, .int 0]))).set 3 (.inl (3, 32, .inr (.inr (.inr (.inr _)))))).set 9 (.inr (2, [.ref 10, .ref 11, .ref 12, .ref 1, .int 1, .int 0, .int 0, .int 0, .int 0, .int 0, .int 0, .int 2, .int 0]))).set 10 (.inl (0, 601, .inl _))).set 18 (.inr (9, (((((pm_f9.set 6 (.int 0)).set 9 (.int 0)).set 13 (.int 0)).set 18 (.int 0)).set 20 (.int 0)).set 21 (.int 0)))).set 25 (.inl (0, 90, .inl _))).set 26 (.inl (1, 90, .inl _))).set 27 (.inl (0, 90, .inl _))) ++ [.inr (1, [.ref 51, .int 0, .int 0])]) ++ [.inl (0, 500, .inl _)]) _ _ _
  refine pm_e_sim pm_a53_33 rfl ?_
  show pm_E _ _ _ 34 [(0, .ref 18), (1, .int (-1))] [.ref 18] _ _ _ _
  refine pm_e_sim pm_a53_34 rfl ?_
  show pm_E _ _ _ 35 [(0, .ref 18), (1, .int (-1))] [.ref 18, .ref 18] _ _ _ _
  refine pm_e_rd pm_a53_35 rfl rfl rfl ?_
  show pm_E _ _ _ 38 [(0, .ref 18), (1, .int (-1))] [.int 0, .ref 18] _ _ _ _
  refine pm_e_sim pm_a53_38 rfl ?_
  refine pm_e_top (y := 1) (by decide +kernel) ?_
  show pm_E _ _ _ 39 [(0, .ref 18), (1, .int (-1))] [.int 1, .int 0, .ref 18] _ _ _ _
  refine pm_e_sim pm_a53_39 rfl ?_
  refine pm_e_top (y := 1) (by decide +kernel) ?_
  show pm_E _ _ _ 40 [(0, .ref 18), (1, .int (-1))] [.int 1, .ref 18] _ _ _ _
  refine pm_e_wr pm_a53_40 rfl rfl rfl rfl rfl ?_
  show pm_E _ _ _ 43 [(0, .ref 18), (1, .int (-1))] [] (((((((((((pm_H0.set 0 (.inr (8, [.ref 1, .ref 3, .ref 4, .ref 6, .ref 9, .ref 13, .ref 15, .null, .null, .int 0, .int 2, .int 0, .int 0]))).set 1 (.inr (4, [.ref 2, .int 0]))).set 3 (.inl (3, 32, .inr (.inr (.inr (.inr _)))))).set 9 (.inr (2, [.ref 10, .ref 11, .ref 12, .ref 1, .int 1, .int 0, .int 0, .int 0, .int 0, .int 0, .int 0, .int 2, .int 0]))).set 10 (.inl (0, 601, .inl _))).set 18 (.inr (9, (((((pm_f9.set 6 (.int 0)).set 9 (.int 0)).set 13 (.int 0)).set 18 (.int 1)).set 20 (.int 0)).set 21 (.int 0)))).set 25 (.inl (0, 90, .inl _))).set 26 (.inl (1, 90, .inl _))).set 27 (.inl (0, 90, .inl _))) ++ [.inr (1, [.ref 51, .int 0, .int 0])]) ++ [.inl (0, 500, .inl _)]) _ _ _
  refine pm_e_ret pm_a53_43 rfl rfl rfl rfl rfl rfl rfl rfl ?_
  show pm_E _ _ _ 30 [(0, .ref 18)] [] _ _ _ _
  refine pm_e_sim pm_a52_30 rfl ?_
  show pm_E _ _ _ 31 [(0, .ref 18)] [.ref 18] _ _ _ _
  refine pm_e_call (T2 := pm_mm54) pm_a52_31 rfl rfl rfl rfl rfl rfl rfl rfl rfl ?_
  show pm_E _ _ _ 0 [(0, .ref 18)] [] _ _ _ _
  refine pm_e_sim pm_a54_0 rfl ?_
  show pm_E _ _ _ 1 [(0, .ref 18)] [.ref 18] _ _ _ _
  refine pm_e_call (T2 := pm_mm55) pm_a54_1 rfl rfl rfl rfl rfl rfl rfl rfl rfl ?_
  show pm_E _ _ _ 0 [(0, .ref 18)] [] _ _ _ _
  refine pm_e_sim pm_a55_0 rfl ?_
  show pm_E _ _ _ 1 [(0, .ref 18)] [.ref 18] _ _ _ _
  refine pm_e_rd pm_a55_1 rfl rfl rfl ?_
  show pm_E _ _ _ 4 [(0, .ref 18)] [.int 0] _ _ _ _
  refine pm_e_sim pm_a55_4 rfl ?_
  show pm_E _ _ _ 5 [(0, .ref 18)] [.ref 18, .int 0] _ _ _ _
  refine pm_e_rd pm_a55_5 rfl rfl rfl ?_
  show pm_E _ _ _ 8 [(0, .ref 18)] [.int 0, .int 0] _ _ _ _
  refine pm_e_ict pm_a55_8 rfl (by decide +kernel) ?_
  show pm_E _ _ _ 23 [(0, .ref 18)] [] _ _ _ _
  refine pm_e_sim pm_a55_23 rfl ?_
  refine pm_e_top (y := (-1)) (by decide +kernel) ?_
  show pm_E _ _ _ 24 [(0, .ref 18)] [.int (-1)] _ _ _ _
  refine pm_e_ret pm_a55_24 rfl rfl rfl rfl rfl rfl rfl rfl ?_
  show pm_E _ _ _ 4 [(0, .ref 18)] [.int (-1)] _ _ _ _
  refine pm_e_sim pm_a54_4 rfl ?_
  refine pm_e_top (y := 32) (by decide +kernel) ?_
  show pm_E _ _ _ 6 [(0, .ref 18)] [.int 32, .int (-1)] _ _ _ _
  refine pm_e_ict pm_a54_6 rfl (by decide +kernel) ?_
  show pm_E _ _ _ 22 [(0, .ref 18)] [] _ _ _ _
  refine pm_e_sim pm_a54_22 rfl ?_
  show pm_E _ _ _ 23 [(0, .ref 18)] [.ref 18] _ _ _ _
  refine pm_e_sim pm_a54_23 rfl ?_
  show pm_E _ _ _ 24 [(0, .ref 18)] [.ref 18, .ref 18] _ _ _ _
  refine pm_e_rd pm_a54_24 rfl rfl rfl ?_
  show pm_E _ _ _ 27 [(0, .ref 18)] [.int 0, .ref 18] _ _ _ _
  refine pm_e_wr pm_a54_27 rfl rfl rfl rfl rfl ?_
  show pm_E _ _ _ 30 [(0, .ref 18)] [] (((((((((((pm_H0.set 0 (.inr (8, [.ref 1, .ref 3, .ref 4, .ref 6, .ref 9, .ref 13, .ref 15, .null, .null, .int 0, .int 2, .int 0, .int 0]))).set 1 (.inr (4, [.ref 2, .int 0]))).set 3 (.inl (3, 32, .inr (.inr (.inr (.inr _)))))).set 9 (.inr (2, [.ref 10, .ref 11, .ref 12, .ref 1, .int 1, .int 0, .int 0, .int 0, .int 0, .int 0, .int 0, .int 2, .int 0]))).set 10 (.inl (0, 601, .inl _))).set 18 (.inr (9, ((((((pm_f9.set 6 (.int 0)).set 9 (.int 0)).set 10 (.int 0)).set 13 (.int 0)).set 18 (.int 1)).set 20 (.int 0)).set 21 (.int 0)))).set 25 (.inl (0, 90, .inl _))).set 26 (.inl (1, 90, .inl _))).set 27 (.inl (0, 90, .inl _))) ++ [.inr (1, [.ref 51, .int 0, .int 0])]) ++ [.inl (0, 500, .inl _)]) _ _ _
  refine pm_e_sim pm_a54_30 rfl ?_
  show pm_E _ _ _ 31 [(0, .ref 18)] [.ref 18] _ _ _ _
  refine pm_e_sim pm_a54_31 rfl ?_
  show pm_E _ _ _ 32 [(0, .ref 18)] [.long _, .ref 18] _ _ _ _
  refine pm_e_wr pm_a54_32 rfl rfl rfl rfl rfl ?_
  show pm_E _ _ _ 35 [(0, .ref 18)] [] (((((((((((pm_H0.set 0 (.inr (8, [.ref 1, .ref 3, .ref 4, .ref 6, .ref 9, .ref 13, .ref 15, .null, .null, .int 0, .int 2, .int 0, .int 0]))).set 1 (.inr (4, [.ref 2, .int 0]))).set 3 (.inl (3, 32, .inr (.inr (.inr (.inr _)))))).set 9 (.inr (2, [.ref 10, .ref 11, .ref 12, .ref 1, .int 1, .int 0, .int 0, .int 0, .int 0, .int 0, .int 0, .int 2, .int 0]))).set 10 (.inl (0, 601, .inl _))).set 18 (.inr (9, (((((((pm_f9.set 6 (.int 0)).set 9 (.int 0)).set 10 (.int 0)).set 12 (.long _)).set 13 (.int 0)).set 18 (.int 1)).set 20 (.int 0)).set 21 (.int 0)))).set 25 (.inl (0, 90, .inl _))).set 26 (.inl (1, 90, .inl _))).set 27 (.inl (0, 90, .inl _))) ++ [.inr (1, [.ref 51, .int 0, .int 0])]) ++ [.inl (0, 500, .inl _)]) _ _ _
  refine pm_e_sim pm_a54_35 rfl ?_
  show pm_E _ _ _ 36 [(0, .ref 18)] [.ref 18] _ _ _ _
  refine pm_e_call (T2 := pm_mm55) pm_a54_36 rfl rfl rfl rfl rfl rfl rfl rfl rfl ?_
  show pm_E _ _ _ 0 [(0, .ref 18)] [] _ _ _ _
  refine pm_e_sim pm_a55_0 rfl ?_
  show pm_E _ _ _ 1 [(0, .ref 18)] [.ref 18] _ _ _ _
  refine pm_e_rd pm_a55_1 rfl rfl rfl ?_
  show pm_E _ _ _ 4 [(0, .ref 18)] [.int 0] _ _ _ _
  refine pm_e_sim pm_a55_4 rfl ?_
  show pm_E _ _ _ 5 [(0, .ref 18)] [.ref 18, .int 0] _ _ _ _
  refine pm_e_rd pm_a55_5 rfl rfl rfl ?_
  show pm_E _ _ _ 8 [(0, .ref 18)] [.int 0, .int 0] _ _ _ _
  refine pm_e_ict pm_a55_8 rfl (by decide +kernel) ?_
  show pm_E _ _ _ 23 [(0, .ref 18)] [] _ _ _ _
  refine pm_e_sim pm_a55_23 rfl ?_
  refine pm_e_top (y := (-1)) (by decide +kernel) ?_
  show pm_E _ _ _ 24 [(0, .ref 18)] [.int (-1)] _ _ _ _
  refine pm_e_ret pm_a55_24 rfl rfl rfl rfl rfl rfl rfl rfl ?_
  show pm_E _ _ _ 39 [(0, .ref 18)] [.int (-1)] _ _ _ _
  refine pm_e_sim pm_a54_39 rfl ?_
  show pm_E _ _ _ 40 [(1, .int (-1)), (0, .ref 18)] [] _ _ _ _
  refine pm_e_sim pm_a54_40 rfl ?_
  show pm_E _ _ _ 41 [(1, .int (-1)), (0, .ref 18)] [.int (-1)] _ _ _ _
  refine pm_e_iff pm_a54_41 rfl (by decide +kernel) ?_
  show pm_E _ _ _ 44 [(1, .int (-1)), (0, .ref 18)] [] _ _ _ _
  refine pm_e_sim pm_a54_44 rfl ?_
  show pm_E _ _ _ 45 [(1, .int (-1)), (0, .ref 18)] [.ref 18] _ _ _ _
  refine pm_e_sim pm_a54_45 rfl ?_
  refine pm_e_top (y := 0) (by decide +kernel) ?_
  show pm_E _ _ _ 46 [(1, .int (-1)), (0, .ref 18)] [.int 0, .ref 18] _ _ _ _
  refine pm_e_wr pm_a54_46 rfl rfl rfl rfl rfl ?_
  show pm_E _ _ _ 49 [(1, .int (-1)), (0, .ref 18)] [] (((((((((((pm_H0.set 0 (.inr (8, [.ref 1, .ref 3, .ref 4, .ref 6, .ref 9, .ref 13, .ref 15, .null, .null, .int 0, .int 2, .int 0, .int 0]))).set 1 (.inr (4, [.ref 2, .int 0]))).set 3 (.inl (3, 32, .inr (.inr (.inr (.inr _)))))).set 9 (.inr (2, [.ref 10, .ref 11, .ref 12, .ref 1, .int 1, .int 0, .int 0, .int 0, .int 0, .int 0, .int 0, .int 2, .int 0]))).set 10 (.inl (0, 601, .inl _))).set 18 (.inr (9, ((((((((pm_f9.set 6 (.int 0)).set 9 (.int 0)).set 10 (.int 0)).set 11 (.int 0)).set 12 (.long _)).set 13 (.int 0)).set 18 (.int 1)).set 20 (.int 0)).set 21 (.int 0)))).set 25 (.inl (0, 90, .inl _))).set 26 (.inl (1, 90, .inl _))).set 27 (.inl (0, 90, .inl _))) ++ [.inr (1, [.ref 51, .int 0, .int 0])]) ++ [.inl (0, 500, .inl _)]) _ _ _
  refine pm_e_goto pm_a54_49 rfl ?_
  show pm_E _ _ _ 390 [(1, .int (-1)), (0, .ref 18)] [] _ _ _ _
  refine pm_e_ret pm_a54_390 rfl rfl rfl rfl rfl rfl rfl rfl ?_
  show pm_E _ _ _ 34 [(0, .ref 18)] [] _ _ _ _
  refine pm_e_sim pm_a52_34 rfl ?_
  refine pm_e_top (y := 1) (by decide +kernel) ?_
  show pm_E _ _ _ 35 [(0, .ref 18)] [.int 1] _ _ _ _
  refine pm_e_sim pm_a52_35 rfl ?_
  show pm_E _ _ _ 36 [(1, .int 1), (0, .ref 18)] [] _ _ _ _
  refine pm_e_sim pm_a52_36 rfl ?_
  show pm_E _ _ _ 37 [(1, .int 1), (0, .ref 18)] [.int 1] _ _ _ _
  refine pm_e_iff pm_a52_37 rfl (by decide +kernel) ?_
  show pm_E _ _ _ 40 [(1, .int 1), (0, .ref 18)] [] _ _ _ _
  refine pm_e_sim pm_a52_40 rfl ?_
  show pm_E _ _ _ 41 [(1, .int 1), (0, .ref 18)] [.ref 18] _ _ _ _
  refine pm_e_rd pm_a52_41 rfl rfl rfl ?_
  show pm_E _ _ _ 44 [(1, .int 1), (0, .ref 18)] [.int 0] _ _ _ _
  refine pm_e_iff pm_a52_44 rfl (by decide +kernel) ?_
  show pm_E _ _ _ 47 [(1, .int 1), (0, .ref 18)] [] _ _ _ _
  refine pm_e_sim pm_a52_47 rfl ?_
  show pm_E _ _ _ 48 [(1, .int 1), (0, .ref 18)] [.ref 18] _ _ _ _
  refine pm_e_rd pm_a52_48 rfl rfl rfl ?_
  show pm_E _ _ _ 51 [(1, .int 1), (0, .ref 18)] [.int 0] _ _ _ _
  refine pm_e_sim pm_a52_51 rfl ?_
  refine pm_e_top (y := 1) (by decide +kernel) ?_
  show pm_E _ _ _ 52 [(1, .int 1), (0, .ref 18)] [.int 1, .int 0] _ _ _ _
  refine pm_e_ict pm_a52_52 rfl (by decide +kernel) ?_
  show pm_E _ _ _ 62 [(1, .int 1), (0, .ref 18)] [] _ _ _ _
  refine pm_e_sim pm_a52_62 rfl ?_
  show pm_E _ _ _ 63 [(1, .int 1), (0, .ref 18)] [.ref 18] _ _ _ _
  refine pm_e_rd pm_a52_63 rfl rfl rfl ?_
  show pm_E _ _ _ 66 [(1, .int 1), (0, .ref 18)] [.int 0] _ _ _ _
  refine pm_e_sim pm_a52_66 rfl ?_
  refine pm_e_top (y := 2) (by decide +kernel) ?_
  show pm_E _ _ _ 67 [(1, .int 1), (0, .ref 18)] [.int 2, .int 0] _ _ _ _
  refine pm_e_ict pm_a52_67 rfl (by decide +kernel) ?_
  show pm_E _ _ _ 77 [(1, .int 1), (0, .ref 18)] [] _ _ _ _
  refine pm_e_sim pm_a52_77 rfl ?_
  show pm_E _ _ _ 78 [(1, .int 1), (0, .ref 18)] [.ref 18] _ _ _ _
  refine pm_e_rd pm_a52_78 rfl rfl rfl ?_
  show pm_E _ _ _ 81 [(1, .int 1), (0, .ref 18)] [.int 0] _ _ _ _
  refine pm_e_sim pm_a52_81 rfl ?_
  refine pm_e_top (y := 3) (by decide +kernel) ?_
  show pm_E _ _ _ 82 [(1, .int 1), (0, .ref 18)] [.int 3, .int 0] _ _ _ _
  refine pm_e_ict pm_a52_82 rfl (by decide +kernel) ?_
  show pm_E _ _ _ 105 [(1, .int 1), (0, .ref 18)] [] _ _ _ _
  refine pm_e_sim pm_a52_105 rfl ?_
  show pm_E _ _ _ 106 [(1, .int 1), (0, .ref 18)] [.ref 18] _ _ _ _
  refine pm_e_sim pm_a52_106 rfl ?_
  refine pm_e_top (y := 40) (by decide +kernel) ?_
  show pm_E _ _ _ 108 [(1, .int 1), (0, .ref 18)] [.int 40, .ref 18] _ _ _ _
  refine pm_e_call (T2 := pm_mm57) pm_a52_108 rfl rfl rfl rfl rfl rfl rfl rfl rfl ?_
  show pm_E _ _ _ 0 [(0, .ref 18), (1, .int 40)] [] _ _ _ _
  refine pm_e_sim pm_a57_0 rfl ?_
  show pm_E _ _ _ 1 [(0, .ref 18), (1, .int 40)] [.ref 18] _ _ _ _
  refine pm_e_rd pm_a57_1 rfl rfl rfl ?_
  show pm_E _ _ _ 4 [(0, .ref 18), (1, .int 40)] [.int 0] _ _ _ _
  refine pm_e_sim pm_a57_4 rfl ?_
  refine pm_e_top (y := 4) (by decide +kernel) ?_
  show pm_E _ _ _ 5 [(0, .ref 18), (1, .int 40)] [.int 4, .int 0] _ _ _ _
  refine pm_e_ict pm_a57_5 rfl (by decide +kernel) ?_
  show pm_E _ _ _ 22 [(0, .ref 18), (1, .int 40)] [] _ _ _ _
  refine pm_e_sim pm_a57_22 rfl ?_
  refine pm_e_top (y := 0) (by decide +kernel) ?_
  show pm_E _ _ _ 23 [(0, .ref 18), (1, .int 40)] [.int 0] _ _ _ _
  refine pm_e_ret pm_a57_23 rfl rfl rfl rfl rfl rfl rfl rfl ?_
  show pm_E _ _ _ 111 [(1, .int 1), (0, .ref 18)] [.int 0] _ _ _ _
  refine pm_e_ift pm_a52_111 rfl (by decide +kernel) ?_
  show pm_E _ _ _ 161 [(1, .int 1), (0, .ref 18)] [] _ _ _ _
  refine pm_e_sim pm_a52_161 rfl ?_
  show pm_E _ _ _ 162 [(1, .int 1), (0, .ref 18)] [.ref 18] _ _ _ _
  refine pm_e_sim pm_a52_162 rfl ?_
  refine pm_e_top (y := 92) (by decide +kernel) ?_
  show pm_E _ _ _ 164 [(1, .int 1), (0, .ref 18)] [.int 92, .ref 18] _ _ _ _
  refine pm_e_call (T2 := pm_mm57) pm_a52_164 rfl rfl rfl rfl rfl rfl rfl rfl rfl ?_
  show pm_E _ _ _ 0 [(0, .ref 18), (1, .int 92)] [] _ _ _ _
  refine pm_e_sim pm_a57_0 rfl ?_
  show pm_E _ _ _ 1 [(0, .ref 18), (1, .int 92)] [.ref 18] _ _ _ _
  refine pm_e_rd pm_a57_1 rfl rfl rfl ?_
  show pm_E _ _ _ 4 [(0, .ref 18), (1, .int 92)] [.int 0] _ _ _ _
  refine pm_e_sim pm_a57_4 rfl ?_
  refine pm_e_top (y := 4) (by decide +kernel) ?_
  show pm_E _ _ _ 5 [(0, .ref 18), (1, .int 92)] [.int 4, .int 0] _ _ _ _
  refine pm_e_ict pm_a57_5 rfl (by decide +kernel) ?_
  show pm_E _ _ _ 22 [(0, .ref 18), (1, .int 92)] [] _ _ _ _
  refine pm_e_sim pm_a57_22 rfl ?_
  refine pm_e_top (y := 0) (by decide +kernel) ?_
  show pm_E _ _ _ 23 [(0, .ref 18), (1, .int 92)] [.int 0] _ _ _ _
  refine pm_e_ret pm_a57_23 rfl rfl rfl rfl rfl rfl rfl rfl ?_
  show pm_E _ _ _ 167 [(1, .int 1), (0, .ref 18)] [.int 0] _ _ _ _
  refine pm_e_ift pm_a52_167 rfl (by decide +kernel) ?_
  show pm_E _ _ _ 177 [(1, .int 1), (0, .ref 18)] [] _ _ _ _
  refine pm_e_sim pm_a52_177 rfl ?_
  show pm_E _ _ _ 178 [(1, .int 1), (0, .ref 18)] [.ref 18] _ _ _ _
  refine pm_e_sim pm_a52_178 rfl ?_
  refine pm_e_top (y := 41) (by decide +kernel) ?_
  show pm_E _ _ _ 180 [(1, .int 1), (0, .ref 18)] [.int 41, .ref 18] _ _ _ _
  refine pm_e_call (T2 := pm_mm57) pm_a52_180 rfl rfl rfl rfl rfl rfl rfl rfl rfl ?_
  show pm_E _ _ _ 0 [(0, .ref 18), (1, .int 41)] [] _ _ _ _
  refine pm_e_sim pm_a57_0 rfl ?_
  show pm_E _ _ _ 1 [(0, .ref 18), (1, .int 41)] [.ref 18] _ _ _ _
  refine pm_e_rd pm_a57_1 rfl rfl rfl ?_
  show pm_E _ _ _ 4 [(0, .ref 18), (1, .int 41)] [.int 0] _ _ _ _
  refine pm_e_sim pm_a57_4 rfl ?_
  refine pm_e_top (y := 4) (by decide +kernel) ?_
  show pm_E _ _ _ 5 [(0, .ref 18), (1, .int 41)] [.int 4, .int 0] _ _ _ _
  refine pm_e_ict pm_a57_5 rfl (by decide +kernel) ?_
  show pm_E _ _ _ 22 [(0, .ref 18), (1, .int 41)] [] _ _ _ _
  refine pm_e_sim pm_a57_22 rfl ?_
  refine pm_e_top (y := 0) (by decide +kernel) ?_
  show pm_E _ _ _ 23 [(0, .ref 18), (1, .int 41)] [.int 0] _ _ _ _
  refine pm_e_ret pm_a57_23 rfl rfl rfl rfl rfl rfl rfl rfl ?_
  show pm_E _ _ _ 183 [(1, .int 1), (0, .ref 18)] [.int 0] _ _ _ _
  refine pm_e_iff pm_a52_183 rfl (by decide +kernel) ?_
  show pm_E _ _ _ 186 [(1, .int 1), (0, .ref 18)] [] _ _ _ _
  refine pm_e_sim pm_a52_186 rfl ?_
  show pm_E _ _ _ 187 [(1, .int 1), (0, .ref 18)] [.ref 18] _ _ _ _
  refine pm_e_rd pm_a52_187 rfl rfl rfl ?_
  show pm_E _ _ _ 190 [(1, .int 1), (0, .ref 18)] [.int 0] _ _ _ _
  refine pm_e_iff pm_a52_190 rfl (by decide +kernel) ?_
  show pm_E _ _ _ 193 [(1, .int 1), (0, .ref 18)] [] _ _ _ _
  refine pm_e_sim pm_a52_193 rfl ?_
  show pm_E _ _ _ 194 [(1, .int 1), (0, .ref 18)] [.ref 18] _ _ _ _
  refine pm_e_call (T2 := pm_mm58) pm_a52_194 rfl rfl rfl rfl rfl rfl rfl rfl rfl ?_
  show pm_E _ _ _ 0 [(0, .ref 18)] [] _ _ _ _
  refine pm_e_sim pm_a58_0 rfl ?_
  show pm_E _ _ _ 1 [(0, .ref 18)] [.ref 18] _ _ _ _
  refine pm_e_rd pm_a58_1 rfl rfl rfl ?_
  show pm_E _ _ _ 4 [(0, .ref 18)] [.int 0] _ _ _ _
  refine pm_e_iff pm_a58_4 rfl (by decide +kernel) ?_
  show pm_E _ _ _ 7 [(0, .ref 18)] [] _ _ _ _
  refine pm_e_sim pm_a58_7 rfl ?_
  show pm_E _ _ _ 8 [(0, .ref 18)] [.ref 18] _ _ _ _
  refine pm_e_rd pm_a58_8 rfl rfl rfl ?_
  show pm_E _ _ _ 11 [(0, .ref 18)] [.ref 27] _ _ _ _
  refine pm_e_sim pm_a58_11 rfl ?_
  show pm_E _ _ _ 12 [(0, .ref 18)] [.ref 18, .ref 27] _ _ _ _
  refine pm_e_rd pm_a58_12 rfl rfl rfl ?_
  show pm_E _ _ _ 15 [(0, .ref 18)] [.int 1, .ref 27] _ _ _ _
  refine pm_e_sim pm_a58_15 rfl ?_
  refine pm_e_top (y := 1) (by decide +kernel) ?_
  show pm_E _ _ _ 16 [(0, .ref 18)] [.int 1, .int 1, .ref 27] _ _ _ _
  refine pm_e_sim pm_a58_16 rfl ?_
  refine pm_e_top (y := 0) (by decide +kernel) ?_
  show pm_E _ _ _ 17 [(0, .ref 18)] [.int 0, .ref 27] _ _ _ _
  refine pm_e_rd pm_a58_17 rfl rfl rfl ?_
  show pm_E _ _ _ 18 [(0, .ref 18)] [.int (-1)] _ _ _ _
  refine pm_e_ift pm_a58_18 rfl (by decide +kernel) ?_
  show pm_E _ _ _ 100 [(0, .ref 18)] [] _ _ _ _
  refine pm_e_sim pm_a58_100 rfl ?_
  show pm_E _ _ _ 101 [(0, .ref 18)] [.ref 18] _ _ _ _
  refine pm_e_rd pm_a58_101 rfl rfl rfl ?_
  show pm_E _ _ _ 104 [(0, .ref 18)] [.int 0] _ _ _ _
  refine pm_e_iff pm_a58_104 rfl (by decide +kernel) ?_
  show pm_E _ _ _ 107 [(0, .ref 18)] [] _ _ _ _
  refine pm_e_sim pm_a58_107 rfl ?_
  show pm_E _ _ _ 108 [(0, .ref 18)] [.ref 18] _ _ _ _
  refine pm_e_rd pm_a58_108 rfl rfl rfl ?_
  show pm_E _ _ _ 111 [(0, .ref 18)] [.ref 26] _ _ _ _
  refine pm_e_sim pm_a58_111 rfl ?_
  show pm_E _ _ _ 112 [(0, .ref 18)] [.ref 18, .ref 26] _ _ _ _
  refine pm_e_rd pm_a58_112 rfl rfl rfl ?_
  show pm_E _ _ _ 115 [(0, .ref 18)] [.int 1, .ref 26] _ _ _ _
  refine pm_e_sim pm_a58_115 rfl ?_
  refine pm_e_top (y := 1) (by decide +kernel) ?_
  show pm_E _ _ _ 116 [(0, .ref 18)] [.int 1, .int 1, .ref 26] _ _ _ _
  refine pm_e_sim pm_a58_116 rfl ?_
  refine pm_e_top (y := 0) (by decide +kernel) ?_
  show pm_E _ _ _ 117 [(0, .ref 18)] [.int 0, .ref 26] _ _ _ _
  refine pm_e_rd pm_a58_117 rfl rfl rfl ?_
  show pm_E _ _ _ 118 [(0, .ref 18)] [.int 0] _ _ _ _
  refine pm_e_iff pm_a58_118 rfl (by decide +kernel) ?_
  show pm_E _ _ _ 121 [(0, .ref 18)] [] _ _ _ _
  refine pm_e_sim pm_a58_121 rfl ?_
  show pm_E _ _ _ 122 [(0, .ref 18)] [.ref 18] _ _ _ _
  refine pm_e_sim pm_a58_122 rfl ?_
  refine pm_e_top (y := 2) (by decide +kernel) ?_
  show pm_E _ _ _ 123 [(0, .ref 18)] [.int 2, .ref 18] _ _ _ _
  refine pm_e_sim pm_a58_123 rfl ?_
  show pm_E _ _ _ 124 [(0, .ref 18)] [.ref 18, .int 2, .ref 18] _ _ _ _
  refine pm_e_rd pm_a58_124 rfl rfl rfl ?_
  show pm_E _ _ _ 127 [(0, .ref 18)] [.int 0, .int 2, .ref 18] _ _ _ _
  refine pm_e_call (T2 := pm_mm56) pm_a58_127 rfl rfl rfl rfl rfl rfl rfl rfl rfl ?_
  show pm_E _ _ _ 0 [(0, .ref 18), (1, .int 2), (2, .int 0)] [] _ _ _ _
  refine pm_e_sim pm_a56_0 rfl ?_
  show pm_E _ _ _ 1 [(0, .ref 18), (1, .int 2), (2, .int 0)] [.ref 18] _ _ _ _
  refine pm_e_rd pm_a56_1 rfl rfl rfl ?_
  show pm_E _ _ _ 4 [(0, .ref 18), (1, .int 2), (2, .int 0)] [.int 0] _ _ _ _
  refine pm_e_iff pm_a56_4 rfl (by decide +kernel) ?_
  show pm_E _ _ _ 7 [(0, .ref 18), (1, .int 2), (2, .int 0)] [] _ _ _ _
  refine pm_e_sim pm_a56_7 rfl ?_
  show pm_E _ _ _ 8 [(0, .ref 18), (1, .int 2), (2, .int 0)] [.ref 18] _ _ _ _
  refine pm_e_sim pm_a56_8 rfl ?_
  show pm_E _ _ _ 9 [(0, .ref 18), (1, .int 2), (2, .int 0)] [.int 2, .ref 18] _ _ _ _
  refine pm_e_wr pm_a56_9 rfl rfl rfl rfl rfl ?_
  show pm_E _ _ _ 12 [(0, .ref 18), (1, .int 2), (2, .int 0)] [] (((((((((((pm_H0.set 0 (.inr (8, [.ref 1, .ref 3, .ref 4, .ref 6, .ref 9, .ref 13, .ref 15, .null, .null, .int 0, .int 2, .int 0, .int 0]))).set 1 (.inr (4, [.ref 2, .int 0]))).set 3 (.inl (3, 32, .inr (.inr (.inr (.inr _)))))).set 9 (.inr (2, [.ref 10, .ref 11, .ref 12, .ref 1, .int 1, .int 0, .int 0, .int 0, .int 0, .int 0, .int 0, .int 2, .int 0]))).set 10 (.inl (0, 601, .inl _))).set 18 (.inr (9, ((((((((pm_f9.set 6 (.int 0)).set 9 (.int 0)).set 10 (.int 0)).set 11 (.int 0)).set 12 (.long _)).set 13 (.int 2)).set 18 (.int 1)).set 20 (.int 0)).set 21 (.int 0)))).set 25 (.inl (0, 90, .inl _))).set 26 (.inl (1, 90, .inl _))).set 27 (.inl (0, 90, .inl _))) ++ [.inr (1, [.ref 51, .int 0, .int 0])]) ++ [.inl (0, 500, .inl _)]) _ _ _
  refine pm_e_sim pm_a56_12 rfl ?_
  show pm_E _ _ _ 13 [(0, .ref 18), (1, .int 2), (2, .int 0)] [.ref 18] _ _ _ _
  refine pm_e_sim pm_a56_13 rfl ?_
  show pm_E _ _ _ 14 [(0, .ref 18), (1, .int 2), (2, .int 0)] [.int 0, .ref 18] _ _ _ _
  refine pm_e_wr pm_a56_14 rfl rfl rfl rfl rfl ?_
  show pm_E _ _ _ 17 [(0, .ref 18), (1, .int 2), (2, .int 0)] [] (((((((((((pm_H0.set 0 (.inr (8, [.ref 1, .ref 3, .ref 4, .ref 6, .ref 9, .ref 13, .ref 15, .null, .null, .int 0, .int 2, .int 0, .int 0]))).set 1 (.inr (4, [.ref 2, .int 0]))).set 3 (.inl (3, 32, .inr (.inr (.inr (.inr _)))))).set 9 (.inr (2, [.ref 10, .ref 11, .ref 12, .ref 1, .int 1, .int 0, .int 0, .int 0, .int 0, .int 0, .int 0, .int 2, .int 0]))).set 10 (.inl (0, 601, .inl _))).set 18 (.inr (9, (((((((((pm_f9.set 6 (.int 0)).set 9 (.int 0)).set 10 (.int 0)).set 11 (.int 0)).set 12 (.long _)).set 13 (.int 2)).set 14 (.int 0)).set 18 (.int 1)).set 20 (.int 0)).set 21 (.int 0)))).set 25 (.inl (0, 90, .inl _))).set 26 (.inl (1, 90, .inl _))).set 27 (.inl (0, 90, .inl _))) ++ [.inr (1, [.ref 51, .int 0, .int 0])]) ++ [.inl (0, 500, .inl _)]) _ _ _
  refine pm_e_ret pm_a56_17 rfl rfl rfl rfl rfl rfl rfl rfl ?_
  show pm_E _ _ _ 130 [(0, .ref 18)] [] _ _ _ _
  refine pm_e_ret pm_a58_130 rfl rfl rfl rfl rfl rfl rfl rfl ?_
  show pm_E _ _ _ 197 [(1, .int 1), (0, .ref 18)] [] _ _ _ _
  refine pm_e_sim pm_a52_197 rfl ?_
  show pm_E _ _ _ 198 [(1, .int 1), (0, .ref 18)] [.ref 18] _ _ _ _
  refine pm_e_rd pm_a52_198 rfl rfl rfl ?_
  show pm_E _ _ _ 201 [(1, .int 1), (0, .ref 18)] [.int 0] _ _ _ _
  refine pm_e_ift pm_a52_201 rfl (by decide +kernel) ?_
  show pm_E _ _ _ 208 [(1, .int 1), (0, .ref 18)] [] _ _ _ _
  refine pm_e_sim pm_a52_208 rfl ?_
  refine pm_e_top (y := 0) (by decide +kernel) ?_
  show pm_E _ _ _ 209 [(1, .int 1), (0, .ref 18)] [.int 0] _ _ _ _
  refine pm_e_sim pm_a52_209 rfl ?_
  show pm_E _ _ _ 210 [(1, .int 0), (0, .ref 18)] [] _ _ _ _
  refine pm_e_sim pm_a52_210 rfl ?_
  show pm_E _ _ _ 211 [(1, .int 0), (0, .ref 18)] [.ref 18] _ _ _ _
  refine pm_e_rd pm_a52_211 rfl rfl rfl ?_
  show pm_E _ _ _ 214 [(1, .int 0), (0, .ref 18)] [.int 2] _ _ _ _
  refine pm_e_ift pm_a52_214 rfl (by decide +kernel) ?_
  show pm_E _ _ _ 249 [(1, .int 0), (0, .ref 18)] [] _ _ _ _
  refine pm_e_sim pm_a52_249 rfl ?_
  show pm_E _ _ _ 250 [(1, .int 0), (0, .ref 18)] [.ref 18] _ _ _ _
  refine pm_e_rd pm_a52_250 rfl rfl rfl ?_
  show pm_E _ _ _ 253 [(1, .int 0), (0, .ref 18)] [.int 2] _ _ _ _
  refine pm_e_ift pm_a52_253 rfl (by decide +kernel) ?_
  show pm_E _ _ _ 36 [(1, .int 0), (0, .ref 18)] [] _ _ _ _
  refine pm_e_sim pm_a52_36 rfl ?_
  show pm_E _ _ _ 37 [(1, .int 0), (0, .ref 18)] [.int 0] _ _ _ _
  refine pm_e_ift pm_a52_37 rfl (by decide +kernel) ?_
  show pm_E _ _ _ 299 [(1, .int 0), (0, .ref 18)] [] _ _ _ _
  refine pm_e_sim pm_a52_299 rfl ?_
  show pm_E _ _ _ 300 [(1, .int 0), (0, .ref 18)] [.ref 18] _ _ _ _
  refine pm_e_rd pm_a52_300 rfl rfl rfl ?_
  show pm_E _ _ _ 303 [(1, .int 0), (0, .ref 18)] [.int 2] _ _ _ _
  refine pm_e_ift pm_a52_303 rfl (by decide +kernel) ?_
  show pm_E _ _ _ 322 [(1, .int 0), (0, .ref 18)] [] _ _ _ _
  refine pm_e_ret pm_a52_322 rfl rfl rfl rfl rfl rfl rfl rfl ?_
  show pm_E _ _ _ 21 [(0, .ref 18)] [] _ _ _ _
  refine pm_e_sim pm_a51_21 rfl ?_
  show pm_E _ _ _ 22 [(0, .ref 18)] [.ref 18] _ _ _ _
  refine pm_e_sim pm_a51_22 rfl ?_
  refine pm_e_top (y := 0) (by decide +kernel) ?_
  show pm_E _ _ _ 23 [(0, .ref 18)] [.int 0, .ref 18] _ _ _ _
  refine pm_e_wr pm_a51_23 rfl rfl rfl rfl rfl ?_
  show pm_E _ _ _ 26 [(0, .ref 18)] [] (((((((((((pm_H0.set 0 (.inr (8, [.ref 1, .ref 3, .ref 4, .ref 6, .ref 9, .ref 13, .ref 15, .null, .null, .int 0, .int 2, .int 0, .int 0]))).set 1 (.inr (4, [.ref 2, .int 0]))).set 3 (.inl (3, 32, .inr (.inr (.inr (.inr _)))))).set 9 (.inr (2, [.ref 10, .ref 11, .ref 12, .ref 1, .int 1, .int 0, .int 0, .int 0, .int 0, .int 0, .int 0, .int 2, .int 0]))).set 10 (.inl (0, 601, .inl _))).set 18 (.inr (9, ((((((((((pm_f9.set 4 (.int 0)).set 6 (.int 0)).set 9 (.int 0)).set 10 (.int 0)).set 11 (.int 0)).set 12 (.long _)).set 13 (.int 2)).set 14 (.int 0)).set 18 (.int 1)).set 20 (.int 0)).set 21 (.int 0)))).set 25 (.inl (0, 90, .inl _))).set 26 (.inl (1, 90, .inl _))).set 27 (.inl (0, 90, .inl _))) ++ [.inr (1, [.ref 51, .int 0, .int 0])]) ++ [.inl (0, 500, .inl _)]) _ _ _
  refine pm_e_sim pm_a51_26 rfl ?_
  show pm_E _ _ _ 27 [(0, .ref 18)] [.ref 18] _ _ _ _
  refine pm_e_rd pm_a51_27 rfl rfl rfl ?_
  show pm_E _ _ _ 30 [(0, .ref 18)] [.int 2] _ _ _ _
  refine pm_e_iff pm_a51_30 rfl (by decide +kernel) ?_
  show pm_E _ _ _ 33 [(0, .ref 18)] [] _ _ _ _
  refine pm_e_sim pm_a51_33 rfl ?_
  refine pm_e_top (y := (-10)) (by decide +kernel) ?_
  show pm_E _ _ _ 35 [(0, .ref 18)] [.int (-10)] _ _ _ _
  refine pm_e_sim pm_a51_35 rfl ?_
  show pm_E _ _ _ 36 [(0, .ref 18)] [.ref 18, .int (-10)] _ _ _ _
  refine pm_e_rd pm_a51_36 rfl rfl rfl ?_
  show pm_E _ _ _ 39 [(0, .ref 18)] [.int 0, .int (-10)] _ _ _ _
  refine pm_e_sim pm_a51_39 rfl ?_
  refine pm_e_top (y := (-10)) (by decide +kernel) ?_
  show pm_E _ _ _ 40 [(0, .ref 18)] [.int (-10)] _ _ _ _
  refine pm_e_ret pm_a51_40 rfl rfl rfl rfl rfl rfl rfl rfl ?_
  show pm_E _ _ _ 234 [(3, .int 0), (2, .ref 18), (1, .ref 0), (0, .retAddr 0)] [.int (-10), .int (-10)] _ _ _ _
  refine pm_e_ict pm_a0_234 rfl (by decide +kernel) ?_
  show pm_E _ _ _ 779 [(3, .int 0), (2, .ref 18), (1, .ref 0), (0, .retAddr 0)] [] _ _ _ _
  refine pm_e_inc (y := 6) pm_a0_779 rfl (by decide +kernel) (by decide +kernel) rfl ?_
  show pm_E _ _ _ 782 [(3, .int 6), (2, .ref 18), (1, .ref 0), (0, .retAddr 0)] [] _ _ _ _
  refine pm_e_goto pm_a0_782 rfl ?_
  show pm_E _ _ _ 18 [(3, .int 6), (2, .ref 18), (1, .ref 0), (0, .retAddr 0)] [] _ _ _ _
  refine pm_e_sim pm_a0_18 rfl ?_
  show pm_E _ _ _ 19 [(3, .int 6), (2, .ref 18), (1, .ref 0), (0, .retAddr 0)] [.int 6] _ _ _ _
  refine pm_e_sim pm_a0_19 rfl ?_
  show pm_E _ _ _ 20 [(3, .int 6), (2, .ref 18), (1, .ref 0), (0, .retAddr 0)] [.retAddr 0, .int 6] _ _ _ _
  refine pm_e_rd pm_a0_20 rfl rfl rfl ?_
  dsimp only
  refine pm_e_top (y := 6) (by decide +kernel) ?_
  show pm_E _ _ _ 21 [(3, .int 6), (2, .ref 18), (1, .ref 0), (0, .retAddr 0)] [.int 6, .int 6] _ _ _ _
  refine pm_e_sim pm_a0_21 rfl ?_
  refine pm_e_top (y := 6) (by decide +kernel) ?_
  show pm_E _ _ _ 23 [(3, .int 6), (2, .ref 18), (1, .ref 0), (0, .retAddr 0)] [.int 6, .int 6, .int 6] _ _ _ _
  refine pm_e_sim pm_a0_23 rfl ?_
  refine pm_e_top (y := 0) (by decide +kernel) ?_
  show pm_E _ _ _ 24 [(3, .int 6), (2, .ref 18), (1, .ref 0), (0, .retAddr 0)] [.int 0, .int 6] _ _ _ _
  refine pm_e_ict pm_a0_24 rfl (by decide +kernel) ?_
  show pm_E _ _ _ 785 [(3, .int 6), (2, .ref 18), (1, .ref 0), (0, .retAddr 0)] [] _ _ _ _
  refine pm_e_sim pm_a0_785 rfl ?_
  refine pm_e_top (y := 1) (by decide +kernel) ?_
  show pm_E _ _ _ 786 [(3, .int 6), (2, .ref 18), (1, .ref 0), (0, .retAddr 0)] [.int 1] _ _ _ _
  refine pm_e_ret pm_a0_786 rfl rfl rfl rfl rfl rfl rfl rfl ?_
  exact hQ _ _ _ (by decide +kernel) (by decide +kernel)
