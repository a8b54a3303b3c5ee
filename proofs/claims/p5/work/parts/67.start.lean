/-! the start: two objects are made; what lies then in the cells -/
def pm_f9 : List Value := [.int 0, .ref 19, .ref 20, .ref 21, .int 0, .ref 22, .int 0, .ref 23, .ref 24, .int 0, .int 0, .int 0, .long 0, .int 0, .int 0, .ref 25, .ref 26, .ref 27, .int 0, .ref 28, .int 0, .int 0, .ref 29, .int 0, .ref 30, .ref 31, .ref 32, .ref 33, .int 0, .ref 34, .int 0, .int 0, .int 0, .ref 35, .ref 36, .ref 37, .ref 38, .ref 39, .ref 40, .ref 41, .ref 42, .ref 43, .ref 44, .ref 45, .ref 46, .int 0, .ref 47, .ref 48, .ref 49]
def pm_H0 : List va_E := [.inr (8, [.ref 1, .ref 3, .ref 4, .ref 6, .ref 9, .ref 13, .ref 15, .null, .null, .int 0, .int 0, .int 0, .int 0]),
  .inr (4, [.ref 2, .int 0]),
  .inl (0, 600, .inl (fun _ => 0)),
  .inl (3, 32, .inr (.inr (.inr (.inr (fun _ => none))))),
  .inr (1, [.ref 5, .int 0, .int 0]),
  .inl (0, 500, .inl (fun _ => 0)),
  .inr (3, [.ref 7, .ref 8]),
  .inl (0, 502, .inl (fun _ => 0)),
  .inl (0, 502, .inl (fun _ => 0)),
  .inr (2, [.ref 10, .ref 11, .ref 12, .ref 1, .int 0, .int 0, .int 0, .int 0, .int 0, .int 0, .int 0, .int 0, .int 0]),
  .inl (0, 601, .inl (fun _ => 0)),
  .inl (0, 40, .inl (fun _ => 0)),
  .inl (0, 40, .inl (fun _ => 0)),
  .inr (5, [.ref 14, .int 0, .int 0, .int 0, .int 0, .int 0]),
  .inl (0, 500, .inl (fun _ => 0)),
  .inr (6, [.ref 6, .ref 16]),
  .inr (1, [.ref 17, .int 0, .int 0]),
  .inl (0, 500, .inl (fun _ => 0)),
  .inr (9, pm_f9),
  .inl (0, 32, .inl (fun _ => 0)),
  .inl (0, 16000, .inl (fun _ => 0)),
  .inl (0, 600, .inl (fun _ => 0)),
  .inl (0, 12000, .inl (fun _ => 0)),
  .inl (0, 12000, .inl (fun _ => 0)),
  .inl (0, 12000, .inl (fun _ => 0)),
  .inl (0, 90, .inl (fun _ => 0)),
  .inl (1, 90, .inl (fun _ => 0)),
  .inl (0, 90, .inl (fun _ => 0)),
  .inl (2, 41, .inr (.inl (fun _ => 0))),
  .inl (0, 6000, .inl (fun _ => 0)),
  .inl (1, 501, .inl (fun _ => 0)),
  .inl (1, 501, .inl (fun _ => 0)),
  .inl (0, 501, .inl (fun _ => 0)),
  .inl (0, 12000, .inl (fun _ => 0)),
  .inl (0, 12000, .inl (fun _ => 0)),
  .inl (0, 9000, .inl (fun _ => 0)),
  .inl (0, 9000, .inl (fun _ => 0)),
  .inl (0, 9000, .inl (fun _ => 0)),
  .inl (0, 20000, .inl (fun _ => 0)),
  .inl (0, 20000, .inl (fun _ => 0)),
  .inl (0, 9000, .inl (fun _ => 0)),
  .inl (0, 9000, .inl (fun _ => 0)),
  .inl (0, 500, .inl (fun _ => 0)),
  .inl (0, 500, .inl (fun _ => 0)),
  .inl (0, 501, .inl (fun _ => 0)),
  .inl (0, 501, .inl (fun _ => 0)),
  .inl (0, 500, .inl (fun _ => 0)),
  .inl (0, 500, .inl (fun _ => 0)),
  .inl (0, 9000, .inl (fun _ => 0)),
  .inl (0, 9000, .inl (fun _ => 0))]
def pm_L0 : pm_L := [(0, .retAddr 0), (1, .ref 0), (2, .ref 18), (3, .int 0)]
set_option maxHeartbeats 40000000 in
set_option maxRecDepth 200000 in
theorem pm_start (scr : Option (Nat × (Nat → Int32))) {Q : Option Value → List va_E → Nat → Nat → Prop} (k : pm_E scr 11 pm_mm0 18 pm_L0 [] pm_H0 50 194358 Q) : pm_E scr 11 pm_mm0 0 [(0, .retAddr 0)] [] [] 0 0 Q := by
  refine pm_e_nw (k2 := 0) pm_a0_0 rfl rfl rfl rfl rfl rfl rfl ?_
  show pm_E _ _ _ 3 [(0, .retAddr 0)] [.ref 0] _ _ _ _
  refine pm_e_sim pm_a0_3 rfl ?_
  show pm_E _ _ _ 4 [(0, .retAddr 0)] [.ref 0, .ref 0] _ _ _ _
  refine pm_e_call (T2 := pm_mm1) pm_a0_4 rfl rfl rfl rfl rfl rfl rfl rfl rfl ?_
  show pm_E _ _ _ 0 [(0, .ref 0)] [] _ _ _ _
  refine pm_e_sim pm_a1_0 rfl ?_
  show pm_E _ _ _ 1 [(0, .ref 0)] [.ref 0] _ _ _ _
  refine pm_e_nat pm_a1_1 rfl rfl rfl rfl rfl rfl ?_
  show pm_E _ _ _ 4 [(0, .ref 0)] [] _ _ _ _
  refine pm_e_sim pm_a1_4 rfl ?_
  show pm_E _ _ _ 5 [(0, .ref 0)] [.ref 0] _ _ _ _
  refine pm_e_nw (k2 := 1) pm_a1_5 rfl rfl rfl rfl rfl rfl rfl ?_
  show pm_E _ _ _ 8 [(0, .ref 0)] [.ref 1, .ref 0] _ _ _ _
  refine pm_e_sim pm_a1_8 rfl ?_
  show pm_E _ _ _ 9 [(0, .ref 0)] [.ref 1, .ref 1, .ref 0] _ _ _ _
  refine pm_e_call (T2 := pm_mm2) pm_a1_9 rfl rfl rfl rfl rfl rfl rfl rfl rfl ?_
  show pm_E _ _ _ 0 [(0, .ref 1)] [] _ _ _ _
  refine pm_e_sim pm_a2_0 rfl ?_
  show pm_E _ _ _ 1 [(0, .ref 1)] [.ref 1] _ _ _ _
  refine pm_e_nat pm_a2_1 rfl rfl rfl rfl rfl rfl ?_
  show pm_E _ _ _ 4 [(0, .ref 1)] [] _ _ _ _
  refine pm_e_sim pm_a2_4 rfl ?_
  show pm_E _ _ _ 5 [(0, .ref 1)] [.ref 1] _ _ _ _
  refine pm_e_sim pm_a2_5 rfl ?_
  refine pm_e_top (y := 600) (by decide +kernel) ?_
  show pm_E _ _ _ 8 [(0, .ref 1)] [.int 600, .ref 1] _ _ _ _
  refine pm_e_nw (k2 := 2) pm_a2_8 rfl rfl rfl rfl rfl rfl rfl ?_
  show pm_E _ _ _ 10 [(0, .ref 1)] [.ref 2, .ref 1] _ _ _ _
  refine pm_e_wr pm_a2_10 rfl rfl rfl rfl rfl ?_
  show pm_E _ _ _ 13 [(0, .ref 1)] [] _ _ _ _
  refine pm_e_ret pm_a2_13 rfl rfl rfl rfl rfl rfl rfl rfl ?_
  show pm_E _ _ _ 12 [(0, .ref 0)] [.ref 1, .ref 0] _ _ _ _
  refine pm_e_wr pm_a1_12 rfl rfl rfl rfl rfl ?_
  show pm_E _ _ _ 15 [(0, .ref 0)] [] _ _ _ _
  refine pm_e_sim pm_a1_15 rfl ?_
  show pm_E _ _ _ 16 [(0, .ref 0)] [.ref 0] _ _ _ _
  refine pm_e_sim pm_a1_16 rfl ?_
  refine pm_e_top (y := 32) (by decide +kernel) ?_
  show pm_E _ _ _ 18 [(0, .ref 0)] [.int 32, .ref 0] _ _ _ _
  refine pm_e_nw (k2 := 3) pm_a1_18 rfl rfl rfl rfl rfl rfl rfl ?_
  show pm_E _ _ _ 21 [(0, .ref 0)] [.ref 3, .ref 0] _ _ _ _
  refine pm_e_wr pm_a1_21 rfl rfl rfl rfl rfl ?_
  show pm_E _ _ _ 24 [(0, .ref 0)] [] _ _ _ _
  refine pm_e_sim pm_a1_24 rfl ?_
  show pm_E _ _ _ 25 [(0, .ref 0)] [.ref 0] _ _ _ _
  refine pm_e_nw (k2 := 4) pm_a1_25 rfl rfl rfl rfl rfl rfl rfl ?_
  show pm_E _ _ _ 28 [(0, .ref 0)] [.ref 4, .ref 0] _ _ _ _
  refine pm_e_sim pm_a1_28 rfl ?_
  show pm_E _ _ _ 29 [(0, .ref 0)] [.ref 4, .ref 4, .ref 0] _ _ _ _
  refine pm_e_sim pm_a1_29 rfl ?_
  refine pm_e_top (y := 500) (by decide +kernel) ?_
  show pm_E _ _ _ 32 [(0, .ref 0)] [.int 500, .ref 4, .ref 4, .ref 0] _ _ _ _
  refine pm_e_call (T2 := pm_mm3) pm_a1_32 rfl rfl rfl rfl rfl rfl rfl rfl rfl ?_
  show pm_E _ _ _ 0 [(0, .ref 4), (1, .int 500)] [] _ _ _ _
  refine pm_e_sim pm_a3_0 rfl ?_
  show pm_E _ _ _ 1 [(0, .ref 4), (1, .int 500)] [.ref 4] _ _ _ _
  refine pm_e_nat pm_a3_1 rfl rfl rfl rfl rfl rfl ?_
  show pm_E _ _ _ 4 [(0, .ref 4), (1, .int 500)] [] _ _ _ _
  refine pm_e_sim pm_a3_4 rfl ?_
  show pm_E _ _ _ 5 [(0, .ref 4), (1, .int 500)] [.ref 4] _ _ _ _
  refine pm_e_sim pm_a3_5 rfl ?_
  show pm_E _ _ _ 6 [(0, .ref 4), (1, .int 500)] [.int 500, .ref 4] _ _ _ _
  refine pm_e_sim pm_a3_6 rfl ?_
  refine pm_e_top (y := 0) (by decide +kernel) ?_
  show pm_E _ _ _ 7 [(0, .ref 4), (1, .int 500)] [.int 0, .int 500, .ref 4] _ _ _ _
  refine pm_e_nat pm_a3_7 rfl rfl rfl rfl rfl rfl ?_
  refine pm_e_top (y := 500) (by decide +kernel) ?_
  show pm_E _ _ _ 10 [(0, .ref 4), (1, .int 500)] [.int 500, .ref 4] _ _ _ _
  refine pm_e_nw (k2 := 5) pm_a3_10 rfl rfl rfl rfl rfl rfl rfl ?_
  show pm_E _ _ _ 12 [(0, .ref 4), (1, .int 500)] [.ref 5, .ref 4] _ _ _ _
  refine pm_e_wr pm_a3_12 rfl rfl rfl rfl rfl ?_
  show pm_E _ _ _ 15 [(0, .ref 4), (1, .int 500)] [] _ _ _ _
  refine pm_e_ret pm_a3_15 rfl rfl rfl rfl rfl rfl rfl rfl ?_
  show pm_E _ _ _ 35 [(0, .ref 0)] [.ref 4, .ref 0] _ _ _ _
  refine pm_e_wr pm_a1_35 rfl rfl rfl rfl rfl ?_
  show pm_E _ _ _ 38 [(0, .ref 0)] [] _ _ _ _
  refine pm_e_sim pm_a1_38 rfl ?_
  show pm_E _ _ _ 39 [(0, .ref 0)] [.ref 0] _ _ _ _
  refine pm_e_nw (k2 := 6) pm_a1_39 rfl rfl rfl rfl rfl rfl rfl ?_
  show pm_E _ _ _ 42 [(0, .ref 0)] [.ref 6, .ref 0] _ _ _ _
  refine pm_e_sim pm_a1_42 rfl ?_
  show pm_E _ _ _ 43 [(0, .ref 0)] [.ref 6, .ref 6, .ref 0] _ _ _ _
  refine pm_e_call (T2 := pm_mm4) pm_a1_43 rfl rfl rfl rfl rfl rfl rfl rfl rfl ?_
  show pm_E _ _ _ 0 [(0, .ref 6)] [] _ _ _ _
  refine pm_e_sim pm_a4_0 rfl ?_
  show pm_E _ _ _ 1 [(0, .ref 6)] [.ref 6] _ _ _ _
  refine pm_e_nat pm_a4_1 rfl rfl rfl rfl rfl rfl ?_
  show pm_E _ _ _ 4 [(0, .ref 6)] [] _ _ _ _
  refine pm_e_sim pm_a4_4 rfl ?_
  show pm_E _ _ _ 5 [(0, .ref 6)] [.ref 6] _ _ _ _
  refine pm_e_sim pm_a4_5 rfl ?_
  refine pm_e_top (y := 502) (by decide +kernel) ?_
  show pm_E _ _ _ 8 [(0, .ref 6)] [.int 502, .ref 6] _ _ _ _
  refine pm_e_nw (k2 := 7) pm_a4_8 rfl rfl rfl rfl rfl rfl rfl ?_
  show pm_E _ _ _ 10 [(0, .ref 6)] [.ref 7, .ref 6] _ _ _ _
  refine pm_e_wr pm_a4_10 rfl rfl rfl rfl rfl ?_
  show pm_E _ _ _ 13 [(0, .ref 6)] [] _ _ _ _
  refine pm_e_sim pm_a4_13 rfl ?_
  show pm_E _ _ _ 14 [(0, .ref 6)] [.ref 6] _ _ _ _
  refine pm_e_sim pm_a4_14 rfl ?_
  refine pm_e_top (y := 502) (by decide +kernel) ?_
  show pm_E _ _ _ 17 [(0, .ref 6)] [.int 502, .ref 6] _ _ _ _
  refine pm_e_nw (k2 := 8) pm_a4_17 rfl rfl rfl rfl rfl rfl rfl ?_
  show pm_E _ _ _ 19 [(0, .ref 6)] [.ref 8, .ref 6] _ _ _ _
  refine pm_e_wr pm_a4_19 rfl rfl rfl rfl rfl ?_
  show pm_E _ _ _ 22 [(0, .ref 6)] [] _ _ _ _
  refine pm_e_ret pm_a4_22 rfl rfl rfl rfl rfl rfl rfl rfl ?_
  show pm_E _ _ _ 46 [(0, .ref 0)] [.ref 6, .ref 0] _ _ _ _
  refine pm_e_wr pm_a1_46 rfl rfl rfl rfl rfl ?_
  show pm_E _ _ _ 49 [(0, .ref 0)] [] _ _ _ _
  refine pm_e_sim pm_a1_49 rfl ?_
  show pm_E _ _ _ 50 [(0, .ref 0)] [.ref 0] _ _ _ _
  refine pm_e_nw (k2 := 9) pm_a1_50 rfl rfl rfl rfl rfl rfl rfl ?_
  show pm_E _ _ _ 53 [(0, .ref 0)] [.ref 9, .ref 0] _ _ _ _
  refine pm_e_sim pm_a1_53 rfl ?_
  show pm_E _ _ _ 54 [(0, .ref 0)] [.ref 9, .ref 9, .ref 0] _ _ _ _
  refine pm_e_sim pm_a1_54 rfl ?_
  show pm_E _ _ _ 55 [(0, .ref 0)] [.ref 0, .ref 9, .ref 9, .ref 0] _ _ _ _
  refine pm_e_rd pm_a1_55 rfl rfl rfl ?_
  show pm_E _ _ _ 58 [(0, .ref 0)] [.ref 1, .ref 9, .ref 9, .ref 0] _ _ _ _
  refine pm_e_call (T2 := pm_mm5) pm_a1_58 rfl rfl rfl rfl rfl rfl rfl rfl rfl ?_
  show pm_E _ _ _ 0 [(0, .ref 9), (1, .ref 1)] [] _ _ _ _
  refine pm_e_sim pm_a5_0 rfl ?_
  show pm_E _ _ _ 1 [(0, .ref 9), (1, .ref 1)] [.ref 9] _ _ _ _
  refine pm_e_nat pm_a5_1 rfl rfl rfl rfl rfl rfl ?_
  show pm_E _ _ _ 4 [(0, .ref 9), (1, .ref 1)] [] _ _ _ _
  refine pm_e_sim pm_a5_4 rfl ?_
  show pm_E _ _ _ 5 [(0, .ref 9), (1, .ref 1)] [.ref 9] _ _ _ _
  refine pm_e_sim pm_a5_5 rfl ?_
  refine pm_e_top (y := 601) (by decide +kernel) ?_
  show pm_E _ _ _ 8 [(0, .ref 9), (1, .ref 1)] [.int 601, .ref 9] _ _ _ _
  refine pm_e_nw (k2 := 10) pm_a5_8 rfl rfl rfl rfl rfl rfl rfl ?_
  show pm_E _ _ _ 10 [(0, .ref 9), (1, .ref 1)] [.ref 10, .ref 9] _ _ _ _
  refine pm_e_wr pm_a5_10 rfl rfl rfl rfl rfl ?_
  show pm_E _ _ _ 13 [(0, .ref 9), (1, .ref 1)] [] _ _ _ _
  refine pm_e_sim pm_a5_13 rfl ?_
  show pm_E _ _ _ 14 [(0, .ref 9), (1, .ref 1)] [.ref 9] _ _ _ _
  refine pm_e_sim pm_a5_14 rfl ?_
  refine pm_e_top (y := 40) (by decide +kernel) ?_
  show pm_E _ _ _ 16 [(0, .ref 9), (1, .ref 1)] [.int 40, .ref 9] _ _ _ _
  refine pm_e_nw (k2 := 11) pm_a5_16 rfl rfl rfl rfl rfl rfl rfl ?_
  show pm_E _ _ _ 18 [(0, .ref 9), (1, .ref 1)] [.ref 11, .ref 9] _ _ _ _
  refine pm_e_wr pm_a5_18 rfl rfl rfl rfl rfl ?_
  show pm_E _ _ _ 21 [(0, .ref 9), (1, .ref 1)] [] _ _ _ _
  refine pm_e_sim pm_a5_21 rfl ?_
  show pm_E _ _ _ 22 [(0, .ref 9), (1, .ref 1)] [.ref 9] _ _ _ _
  refine pm_e_sim pm_a5_22 rfl ?_
  refine pm_e_top (y := 40) (by decide +kernel) ?_
  show pm_E _ _ _ 24 [(0, .ref 9), (1, .ref 1)] [.int 40, .ref 9] _ _ _ _
  refine pm_e_nw (k2 := 12) pm_a5_24 rfl rfl rfl rfl rfl rfl rfl ?_
  show pm_E _ _ _ 26 [(0, .ref 9), (1, .ref 1)] [.ref 12, .ref 9] _ _ _ _
  refine pm_e_wr pm_a5_26 rfl rfl rfl rfl rfl ?_
  show pm_E _ _ _ 29 [(0, .ref 9), (1, .ref 1)] [] _ _ _ _
  refine pm_e_sim pm_a5_29 rfl ?_
  show pm_E _ _ _ 30 [(0, .ref 9), (1, .ref 1)] [.ref 9] _ _ _ _
  refine pm_e_sim pm_a5_30 rfl ?_
  show pm_E _ _ _ 31 [(0, .ref 9), (1, .ref 1)] [.ref 1, .ref 9] _ _ _ _
  refine pm_e_wr pm_a5_31 rfl rfl rfl rfl rfl ?_
  show pm_E _ _ _ 34 [(0, .ref 9), (1, .ref 1)] [] _ _ _ _
  refine pm_e_ret pm_a5_34 rfl rfl rfl rfl rfl rfl rfl rfl ?_
  show pm_E _ _ _ 61 [(0, .ref 0)] [.ref 9, .ref 0] _ _ _ _
  refine pm_e_wr pm_a1_61 rfl rfl rfl rfl rfl ?_
  show pm_E _ _ _ 64 [(0, .ref 0)] [] _ _ _ _
  refine pm_e_sim pm_a1_64 rfl ?_
  show pm_E _ _ _ 65 [(0, .ref 0)] [.ref 0] _ _ _ _
  refine pm_e_nw (k2 := 13) pm_a1_65 rfl rfl rfl rfl rfl rfl rfl ?_
  show pm_E _ _ _ 68 [(0, .ref 0)] [.ref 13, .ref 0] _ _ _ _
  refine pm_e_sim pm_a1_68 rfl ?_
  show pm_E _ _ _ 69 [(0, .ref 0)] [.ref 13, .ref 13, .ref 0] _ _ _ _
  refine pm_e_call (T2 := pm_mm6) pm_a1_69 rfl rfl rfl rfl rfl rfl rfl rfl rfl ?_
  show pm_E _ _ _ 0 [(0, .ref 13)] [] _ _ _ _
  refine pm_e_sim pm_a6_0 rfl ?_
  show pm_E _ _ _ 1 [(0, .ref 13)] [.ref 13] _ _ _ _
  refine pm_e_nat pm_a6_1 rfl rfl rfl rfl rfl rfl ?_
  show pm_E _ _ _ 4 [(0, .ref 13)] [] _ _ _ _
  refine pm_e_sim pm_a6_4 rfl ?_
  show pm_E _ _ _ 5 [(0, .ref 13)] [.ref 13] _ _ _ _
  refine pm_e_sim pm_a6_5 rfl ?_
  refine pm_e_top (y := 500) (by decide +kernel) ?_
  show pm_E _ _ _ 8 [(0, .ref 13)] [.int 500, .ref 13] _ _ _ _
  refine pm_e_nw (k2 := 14) pm_a6_8 rfl rfl rfl rfl rfl rfl rfl ?_
  show pm_E _ _ _ 10 [(0, .ref 13)] [.ref 14, .ref 13] _ _ _ _
  refine pm_e_wr pm_a6_10 rfl rfl rfl rfl rfl ?_
  show pm_E _ _ _ 13 [(0, .ref 13)] [] _ _ _ _
  refine pm_e_ret pm_a6_13 rfl rfl rfl rfl rfl rfl rfl rfl ?_
  show pm_E _ _ _ 72 [(0, .ref 0)] [.ref 13, .ref 0] _ _ _ _
  refine pm_e_wr pm_a1_72 rfl rfl rfl rfl rfl ?_
  show pm_E _ _ _ 75 [(0, .ref 0)] [] _ _ _ _
  refine pm_e_sim pm_a1_75 rfl ?_
  show pm_E _ _ _ 76 [(0, .ref 0)] [.ref 0] _ _ _ _
  refine pm_e_nw (k2 := 15) pm_a1_76 rfl rfl rfl rfl rfl rfl rfl ?_
  show pm_E _ _ _ 79 [(0, .ref 0)] [.ref 15, .ref 0] _ _ _ _
  refine pm_e_sim pm_a1_79 rfl ?_
  show pm_E _ _ _ 80 [(0, .ref 0)] [.ref 15, .ref 15, .ref 0] _ _ _ _
  refine pm_e_sim pm_a1_80 rfl ?_
  show pm_E _ _ _ 81 [(0, .ref 0)] [.ref 0, .ref 15, .ref 15, .ref 0] _ _ _ _
  refine pm_e_rd pm_a1_81 rfl rfl rfl ?_
  show pm_E _ _ _ 84 [(0, .ref 0)] [.ref 6, .ref 15, .ref 15, .ref 0] _ _ _ _
  refine pm_e_call (T2 := pm_mm7) pm_a1_84 rfl rfl rfl rfl rfl rfl rfl rfl rfl ?_
  show pm_E _ _ _ 0 [(0, .ref 15), (1, .ref 6)] [] _ _ _ _
  refine pm_e_sim pm_a7_0 rfl ?_
  show pm_E _ _ _ 1 [(0, .ref 15), (1, .ref 6)] [.ref 15] _ _ _ _
  refine pm_e_nat pm_a7_1 rfl rfl rfl rfl rfl rfl ?_
  show pm_E _ _ _ 4 [(0, .ref 15), (1, .ref 6)] [] _ _ _ _
  refine pm_e_sim pm_a7_4 rfl ?_
  show pm_E _ _ _ 5 [(0, .ref 15), (1, .ref 6)] [.ref 15] _ _ _ _
  refine pm_e_nw (k2 := 16) pm_a7_5 rfl rfl rfl rfl rfl rfl rfl ?_
  show pm_E _ _ _ 8 [(0, .ref 15), (1, .ref 6)] [.ref 16, .ref 15] _ _ _ _
  refine pm_e_sim pm_a7_8 rfl ?_
  show pm_E _ _ _ 9 [(0, .ref 15), (1, .ref 6)] [.ref 16, .ref 16, .ref 15] _ _ _ _
  refine pm_e_sim pm_a7_9 rfl ?_
  refine pm_e_top (y := 500) (by decide +kernel) ?_
  show pm_E _ _ _ 12 [(0, .ref 15), (1, .ref 6)] [.int 500, .ref 16, .ref 16, .ref 15] _ _ _ _
  refine pm_e_call (T2 := pm_mm3) pm_a7_12 rfl rfl rfl rfl rfl rfl rfl rfl rfl ?_
  show pm_E _ _ _ 0 [(0, .ref 16), (1, .int 500)] [] _ _ _ _
  refine pm_e_sim pm_a3_0 rfl ?_
  show pm_E _ _ _ 1 [(0, .ref 16), (1, .int 500)] [.ref 16] _ _ _ _
  refine pm_e_nat pm_a3_1 rfl rfl rfl rfl rfl rfl ?_
  show pm_E _ _ _ 4 [(0, .ref 16), (1, .int 500)] [] _ _ _ _
  refine pm_e_sim pm_a3_4 rfl ?_
  show pm_E _ _ _ 5 [(0, .ref 16), (1, .int 500)] [.ref 16] _ _ _ _
  refine pm_e_sim pm_a3_5 rfl ?_
  show pm_E _ _ _ 6 [(0, .ref 16), (1, .int 500)] [.int 500, .ref 16] _ _ _ _
  refine pm_e_sim pm_a3_6 rfl ?_
  refine pm_e_top (y := 0) (by decide +kernel) ?_
  show pm_E _ _ _ 7 [(0, .ref 16), (1, .int 500)] [.int 0, .int 500, .ref 16] _ _ _ _
  refine pm_e_nat pm_a3_7 rfl rfl rfl rfl rfl rfl ?_
  refine pm_e_top (y := 500) (by decide +kernel) ?_
  show pm_E _ _ _ 10 [(0, .ref 16), (1, .int 500)] [.int 500, .ref 16] _ _ _ _
  refine pm_e_nw (k2 := 17) pm_a3_10 rfl rfl rfl rfl rfl rfl rfl ?_
  show pm_E _ _ _ 12 [(0, .ref 16), (1, .int 500)] [.ref 17, .ref 16] _ _ _ _
  refine pm_e_wr pm_a3_12 rfl rfl rfl rfl rfl ?_
  show pm_E _ _ _ 15 [(0, .ref 16), (1, .int 500)] [] _ _ _ _
  refine pm_e_ret pm_a3_15 rfl rfl rfl rfl rfl rfl rfl rfl ?_
  show pm_E _ _ _ 15 [(0, .ref 15), (1, .ref 6)] [.ref 16, .ref 15] _ _ _ _
  refine pm_e_wr pm_a7_15 rfl rfl rfl rfl rfl ?_
  show pm_E _ _ _ 18 [(0, .ref 15), (1, .ref 6)] [] _ _ _ _
  refine pm_e_sim pm_a7_18 rfl ?_
  show pm_E _ _ _ 19 [(0, .ref 15), (1, .ref 6)] [.ref 15] _ _ _ _
  refine pm_e_sim pm_a7_19 rfl ?_
  show pm_E _ _ _ 20 [(0, .ref 15), (1, .ref 6)] [.ref 6, .ref 15] _ _ _ _
  refine pm_e_wr pm_a7_20 rfl rfl rfl rfl rfl ?_
  show pm_E _ _ _ 23 [(0, .ref 15), (1, .ref 6)] [] _ _ _ _
  refine pm_e_ret pm_a7_23 rfl rfl rfl rfl rfl rfl rfl rfl ?_
  show pm_E _ _ _ 87 [(0, .ref 0)] [.ref 15, .ref 0] _ _ _ _
  refine pm_e_wr pm_a1_87 rfl rfl rfl rfl rfl ?_
  show pm_E _ _ _ 90 [(0, .ref 0)] [] _ _ _ _
  refine pm_e_ret pm_a1_90 rfl rfl rfl rfl rfl rfl rfl rfl ?_
  show pm_E _ _ _ 7 [(0, .retAddr 0)] [.ref 0] _ _ _ _
  refine pm_e_sim pm_a0_7 rfl ?_
  show pm_E _ _ _ 8 [(0, .retAddr 0), (1, .ref 0)] [] _ _ _ _
  refine pm_e_nw (k2 := 18) pm_a0_8 rfl rfl rfl rfl rfl rfl rfl ?_
  show pm_E _ _ _ 11 [(0, .retAddr 0), (1, .ref 0)] [.ref 18] _ _ _ _
  refine pm_e_sim pm_a0_11 rfl ?_
  show pm_E _ _ _ 12 [(0, .retAddr 0), (1, .ref 0)] [.ref 18, .ref 18] _ _ _ _
  refine pm_e_call (T2 := pm_mm143) pm_a0_12 rfl rfl rfl rfl rfl rfl rfl rfl rfl ?_
  show pm_E _ _ _ 0 [(0, .ref 18)] [] _ _ _ _
  refine pm_e_sim pm_a143_0 rfl ?_
  show pm_E _ _ _ 1 [(0, .ref 18)] [.ref 18] _ _ _ _
  refine pm_e_nat pm_a143_1 rfl rfl rfl rfl rfl rfl ?_
  show pm_E _ _ _ 4 [(0, .ref 18)] [] _ _ _ _
  refine pm_e_sim pm_a143_4 rfl ?_
  show pm_E _ _ _ 5 [(0, .ref 18)] [.ref 18] _ _ _ _
  refine pm_e_sim pm_a143_5 rfl ?_
  refine pm_e_top (y := 32) (by decide +kernel) ?_
  show pm_E _ _ _ 7 [(0, .ref 18)] [.int 32, .ref 18] _ _ _ _
  refine pm_e_nw (k2 := 19) pm_a143_7 rfl rfl rfl rfl rfl rfl rfl ?_
  show pm_E _ _ _ 9 [(0, .ref 18)] [.ref 19, .ref 18] _ _ _ _
  refine pm_e_wr pm_a143_9 rfl rfl rfl rfl rfl ?_
  show pm_E _ _ _ 12 [(0, .ref 18)] [] _ _ _ _
  refine pm_e_sim pm_a143_12 rfl ?_
  show pm_E _ _ _ 13 [(0, .ref 18)] [.ref 18] _ _ _ _
  refine pm_e_sim pm_a143_13 rfl ?_
  refine pm_e_top (y := 16000) (by decide +kernel) ?_
  show pm_E _ _ _ 16 [(0, .ref 18)] [.int 16000, .ref 18] _ _ _ _
  refine pm_e_nw (k2 := 20) pm_a143_16 rfl rfl rfl rfl rfl rfl rfl ?_
  show pm_E _ _ _ 18 [(0, .ref 18)] [.ref 20, .ref 18] _ _ _ _
  refine pm_e_wr pm_a143_18 rfl rfl rfl rfl rfl ?_
  show pm_E _ _ _ 21 [(0, .ref 18)] [] _ _ _ _
  refine pm_e_sim pm_a143_21 rfl ?_
  show pm_E _ _ _ 22 [(0, .ref 18)] [.ref 18] _ _ _ _
  refine pm_e_sim pm_a143_22 rfl ?_
  refine pm_e_top (y := 600) (by decide +kernel) ?_
  show pm_E _ _ _ 25 [(0, .ref 18)] [.int 600, .ref 18] _ _ _ _
  refine pm_e_nw (k2 := 21) pm_a143_25 rfl rfl rfl rfl rfl rfl rfl ?_
  show pm_E _ _ _ 27 [(0, .ref 18)] [.ref 21, .ref 18] _ _ _ _
  refine pm_e_wr pm_a143_27 rfl rfl rfl rfl rfl ?_
  show pm_E _ _ _ 30 [(0, .ref 18)] [] _ _ _ _
  refine pm_e_sim pm_a143_30 rfl ?_
  show pm_E _ _ _ 31 [(0, .ref 18)] [.ref 18] _ _ _ _
  refine pm_e_sim pm_a143_31 rfl ?_
  refine pm_e_top (y := 12000) (by decide +kernel) ?_
  show pm_E _ _ _ 34 [(0, .ref 18)] [.int 12000, .ref 18] _ _ _ _
  refine pm_e_nw (k2 := 22) pm_a143_34 rfl rfl rfl rfl rfl rfl rfl ?_
  show pm_E _ _ _ 36 [(0, .ref 18)] [.ref 22, .ref 18] _ _ _ _
  refine pm_e_wr pm_a143_36 rfl rfl rfl rfl rfl ?_
  show pm_E _ _ _ 39 [(0, .ref 18)] [] _ _ _ _
  refine pm_e_sim pm_a143_39 rfl ?_
  show pm_E _ _ _ 40 [(0, .ref 18)] [.ref 18] _ _ _ _
  refine pm_e_sim pm_a143_40 rfl ?_
  refine pm_e_top (y := 12000) (by decide +kernel) ?_
  show pm_E _ _ _ 43 [(0, .ref 18)] [.int 12000, .ref 18] _ _ _ _
  refine pm_e_nw (k2 := 23) pm_a143_43 rfl rfl rfl rfl rfl rfl rfl ?_
  show pm_E _ _ _ 45 [(0, .ref 18)] [.ref 23, .ref 18] _ _ _ _
  refine pm_e_wr pm_a143_45 rfl rfl rfl rfl rfl ?_
  show pm_E _ _ _ 48 [(0, .ref 18)] [] _ _ _ _
  refine pm_e_sim pm_a143_48 rfl ?_
  show pm_E _ _ _ 49 [(0, .ref 18)] [.ref 18] _ _ _ _
  refine pm_e_sim pm_a143_49 rfl ?_
  refine pm_e_top (y := 12000) (by decide +kernel) ?_
  show pm_E _ _ _ 52 [(0, .ref 18)] [.int 12000, .ref 18] _ _ _ _
  refine pm_e_nw (k2 := 24) pm_a143_52 rfl rfl rfl rfl rfl rfl rfl ?_
  show pm_E _ _ _ 54 [(0, .ref 18)] [.ref 24, .ref 18] _ _ _ _
  refine pm_e_wr pm_a143_54 rfl rfl rfl rfl rfl ?_
  show pm_E _ _ _ 57 [(0, .ref 18)] [] _ _ _ _
  refine pm_e_sim pm_a143_57 rfl ?_
  show pm_E _ _ _ 58 [(0, .ref 18)] [.ref 18] _ _ _ _
  refine pm_e_sim pm_a143_58 rfl ?_
  refine pm_e_top (y := 90) (by decide +kernel) ?_
  show pm_E _ _ _ 60 [(0, .ref 18)] [.int 90, .ref 18] _ _ _ _
  refine pm_e_nw (k2 := 25) pm_a143_60 rfl rfl rfl rfl rfl rfl rfl ?_
  show pm_E _ _ _ 62 [(0, .ref 18)] [.ref 25, .ref 18] _ _ _ _
  refine pm_e_wr pm_a143_62 rfl rfl rfl rfl rfl ?_
  show pm_E _ _ _ 65 [(0, .ref 18)] [] _ _ _ _
  refine pm_e_sim pm_a143_65 rfl ?_
  show pm_E _ _ _ 66 [(0, .ref 18)] [.ref 18] _ _ _ _
  refine pm_e_sim pm_a143_66 rfl ?_
  refine pm_e_top (y := 90) (by decide +kernel) ?_
  show pm_E _ _ _ 68 [(0, .ref 18)] [.int 90, .ref 18] _ _ _ _
  refine pm_e_nw (k2 := 26) pm_a143_68 rfl rfl rfl rfl rfl rfl rfl ?_
  show pm_E _ _ _ 70 [(0, .ref 18)] [.ref 26, .ref 18] _ _ _ _
  refine pm_e_wr pm_a143_70 rfl rfl rfl rfl rfl ?_
  show pm_E _ _ _ 73 [(0, .ref 18)] [] _ _ _ _
  refine pm_e_sim pm_a143_73 rfl ?_
  show pm_E _ _ _ 74 [(0, .ref 18)] [.ref 18] _ _ _ _
  refine pm_e_sim pm_a143_74 rfl ?_
  refine pm_e_top (y := 90) (by decide +kernel) ?_
  show pm_E _ _ _ 76 [(0, .ref 18)] [.int 90, .ref 18] _ _ _ _
  refine pm_e_nw (k2 := 27) pm_a143_76 rfl rfl rfl rfl rfl rfl rfl ?_
  show pm_E _ _ _ 78 [(0, .ref 18)] [.ref 27, .ref 18] _ _ _ _
  refine pm_e_wr pm_a143_78 rfl rfl rfl rfl rfl ?_
  show pm_E _ _ _ 81 [(0, .ref 18)] [] _ _ _ _
  refine pm_e_sim pm_a143_81 rfl ?_
  show pm_E _ _ _ 82 [(0, .ref 18)] [.ref 18] _ _ _ _
  refine pm_e_sim pm_a143_82 rfl ?_
  refine pm_e_top (y := 41) (by decide +kernel) ?_
  show pm_E _ _ _ 84 [(0, .ref 18)] [.int 41, .ref 18] _ _ _ _
  refine pm_e_nw (k2 := 28) pm_a143_84 rfl rfl rfl rfl rfl rfl rfl ?_
  show pm_E _ _ _ 86 [(0, .ref 18)] [.ref 28, .ref 18] _ _ _ _
  refine pm_e_wr pm_a143_86 rfl rfl rfl rfl rfl ?_
  show pm_E _ _ _ 89 [(0, .ref 18)] [] _ _ _ _
  refine pm_e_sim pm_a143_89 rfl ?_
  show pm_E _ _ _ 90 [(0, .ref 18)] [.ref 18] _ _ _ _
  refine pm_e_sim pm_a143_90 rfl ?_
  refine pm_e_top (y := 6000) (by decide +kernel) ?_
  show pm_E _ _ _ 93 [(0, .ref 18)] [.int 6000, .ref 18] _ _ _ _
  refine pm_e_nw (k2 := 29) pm_a143_93 rfl rfl rfl rfl rfl rfl rfl ?_
  show pm_E _ _ _ 95 [(0, .ref 18)] [.ref 29, .ref 18] _ _ _ _
  refine pm_e_wr pm_a143_95 rfl rfl rfl rfl rfl ?_
  show pm_E _ _ _ 98 [(0, .ref 18)] [] _ _ _ _
  refine pm_e_sim pm_a143_98 rfl ?_
  show pm_E _ _ _ 99 [(0, .ref 18)] [.ref 18] _ _ _ _
  refine pm_e_sim pm_a143_99 rfl ?_
  refine pm_e_top (y := 501) (by decide +kernel) ?_
  show pm_E _ _ _ 102 [(0, .ref 18)] [.int 501, .ref 18] _ _ _ _
  refine pm_e_nw (k2 := 30) pm_a143_102 rfl rfl rfl rfl rfl rfl rfl ?_
  show pm_E _ _ _ 104 [(0, .ref 18)] [.ref 30, .ref 18] _ _ _ _
  refine pm_e_wr pm_a143_104 rfl rfl rfl rfl rfl ?_
  show pm_E _ _ _ 107 [(0, .ref 18)] [] _ _ _ _
  refine pm_e_sim pm_a143_107 rfl ?_
  show pm_E _ _ _ 108 [(0, .ref 18)] [.ref 18] _ _ _ _
  refine pm_e_sim pm_a143_108 rfl ?_
  refine pm_e_top (y := 501) (by decide +kernel) ?_
  show pm_E _ _ _ 111 [(0, .ref 18)] [.int 501, .ref 18] _ _ _ _
  refine pm_e_nw (k2 := 31) pm_a143_111 rfl rfl rfl rfl rfl rfl rfl ?_
  show pm_E _ _ _ 113 [(0, .ref 18)] [.ref 31, .ref 18] _ _ _ _
  refine pm_e_wr pm_a143_113 rfl rfl rfl rfl rfl ?_
  show pm_E _ _ _ 116 [(0, .ref 18)] [] _ _ _ _
  refine pm_e_sim pm_a143_116 rfl ?_
  show pm_E _ _ _ 117 [(0, .ref 18)] [.ref 18] _ _ _ _
  refine pm_e_sim pm_a143_117 rfl ?_
  refine pm_e_top (y := 501) (by decide +kernel) ?_
  show pm_E _ _ _ 120 [(0, .ref 18)] [.int 501, .ref 18] _ _ _ _
  refine pm_e_nw (k2 := 32) pm_a143_120 rfl rfl rfl rfl rfl rfl rfl ?_
  show pm_E _ _ _ 122 [(0, .ref 18)] [.ref 32, .ref 18] _ _ _ _
  refine pm_e_wr pm_a143_122 rfl rfl rfl rfl rfl ?_
  show pm_E _ _ _ 125 [(0, .ref 18)] [] _ _ _ _
  refine pm_e_sim pm_a143_125 rfl ?_
  show pm_E _ _ _ 126 [(0, .ref 18)] [.ref 18] _ _ _ _
  refine pm_e_sim pm_a143_126 rfl ?_
  refine pm_e_top (y := 12000) (by decide +kernel) ?_
  show pm_E _ _ _ 129 [(0, .ref 18)] [.int 12000, .ref 18] _ _ _ _
  refine pm_e_nw (k2 := 33) pm_a143_129 rfl rfl rfl rfl rfl rfl rfl ?_
  show pm_E _ _ _ 131 [(0, .ref 18)] [.ref 33, .ref 18] _ _ _ _
  refine pm_e_wr pm_a143_131 rfl rfl rfl rfl rfl ?_
  show pm_E _ _ _ 134 [(0, .ref 18)] [] _ _ _ _
  refine pm_e_sim pm_a143_134 rfl ?_
  show pm_E _ _ _ 135 [(0, .ref 18)] [.ref 18] _ _ _ _
  refine pm_e_sim pm_a143_135 rfl ?_
  refine pm_e_top (y := 12000) (by decide +kernel) ?_
  show pm_E _ _ _ 138 [(0, .ref 18)] [.int 12000, .ref 18] _ _ _ _
  refine pm_e_nw (k2 := 34) pm_a143_138 rfl rfl rfl rfl rfl rfl rfl ?_
  show pm_E _ _ _ 140 [(0, .ref 18)] [.ref 34, .ref 18] _ _ _ _
  refine pm_e_wr pm_a143_140 rfl rfl rfl rfl rfl ?_
  show pm_E _ _ _ 143 [(0, .ref 18)] [] _ _ _ _
  refine pm_e_sim pm_a143_143 rfl ?_
  show pm_E _ _ _ 144 [(0, .ref 18)] [.ref 18] _ _ _ _
  refine pm_e_sim pm_a143_144 rfl ?_
  refine pm_e_top (y := 9000) (by decide +kernel) ?_
  show pm_E _ _ _ 147 [(0, .ref 18)] [.int 9000, .ref 18] _ _ _ _
  refine pm_e_nw (k2 := 35) pm_a143_147 rfl rfl rfl rfl rfl rfl rfl ?_
  show pm_E _ _ _ 149 [(0, .ref 18)] [.ref 35, .ref 18] _ _ _ _
  refine pm_e_wr pm_a143_149 rfl rfl rfl rfl rfl ?_
  show pm_E _ _ _ 152 [(0, .ref 18)] [] _ _ _ _
  refine pm_e_sim pm_a143_152 rfl ?_
  show pm_E _ _ _ 153 [(0, .ref 18)] [.ref 18] _ _ _ _
  refine pm_e_sim pm_a143_153 rfl ?_
  refine pm_e_top (y := 9000) (by decide +kernel) ?_
  show pm_E _ _ _ 156 [(0, .ref 18)] [.int 9000, .ref 18] _ _ _ _
  refine pm_e_nw (k2 := 36) pm_a143_156 rfl rfl rfl rfl rfl rfl rfl ?_
  show pm_E _ _ _ 158 [(0, .ref 18)] [.ref 36, .ref 18] _ _ _ _
  refine pm_e_wr pm_a143_158 rfl rfl rfl rfl rfl ?_
  show pm_E _ _ _ 161 [(0, .ref 18)] [] _ _ _ _
  refine pm_e_sim pm_a143_161 rfl ?_
  show pm_E _ _ _ 162 [(0, .ref 18)] [.ref 18] _ _ _ _
  refine pm_e_sim pm_a143_162 rfl ?_
  refine pm_e_top (y := 9000) (by decide +kernel) ?_
  show pm_E _ _ _ 165 [(0, .ref 18)] [.int 9000, .ref 18] _ _ _ _
  refine pm_e_nw (k2 := 37) pm_a143_165 rfl rfl rfl rfl rfl rfl rfl ?_
  show pm_E _ _ _ 167 [(0, .ref 18)] [.ref 37, .ref 18] _ _ _ _
  refine pm_e_wr pm_a143_167 rfl rfl rfl rfl rfl ?_
  show pm_E _ _ _ 170 [(0, .ref 18)] [] _ _ _ _
  refine pm_e_sim pm_a143_170 rfl ?_
  show pm_E _ _ _ 171 [(0, .ref 18)] [.ref 18] _ _ _ _
  refine pm_e_sim pm_a143_171 rfl ?_
  refine pm_e_top (y := 20000) (by decide +kernel) ?_
  show pm_E _ _ _ 174 [(0, .ref 18)] [.int 20000, .ref 18] _ _ _ _
  refine pm_e_nw (k2 := 38) pm_a143_174 rfl rfl rfl rfl rfl rfl rfl ?_
  show pm_E _ _ _ 176 [(0, .ref 18)] [.ref 38, .ref 18] _ _ _ _
  refine pm_e_wr pm_a143_176 rfl rfl rfl rfl rfl ?_
  show pm_E _ _ _ 179 [(0, .ref 18)] [] _ _ _ _
  refine pm_e_sim pm_a143_179 rfl ?_
  show pm_E _ _ _ 180 [(0, .ref 18)] [.ref 18] _ _ _ _
  refine pm_e_sim pm_a143_180 rfl ?_
  refine pm_e_top (y := 20000) (by decide +kernel) ?_
  show pm_E _ _ _ 183 [(0, .ref 18)] [.int 20000, .ref 18] _ _ _ _
  refine pm_e_nw (k2 := 39) pm_a143_183 rfl rfl rfl rfl rfl rfl rfl ?_
  show pm_E _ _ _ 185 [(0, .ref 18)] [.ref 39, .ref 18] _ _ _ _
  refine pm_e_wr pm_a143_185 rfl rfl rfl rfl rfl ?_
  show pm_E _ _ _ 188 [(0, .ref 18)] [] _ _ _ _
  refine pm_e_sim pm_a143_188 rfl ?_
  show pm_E _ _ _ 189 [(0, .ref 18)] [.ref 18] _ _ _ _
  refine pm_e_sim pm_a143_189 rfl ?_
  refine pm_e_top (y := 9000) (by decide +kernel) ?_
  show pm_E _ _ _ 192 [(0, .ref 18)] [.int 9000, .ref 18] _ _ _ _
  refine pm_e_nw (k2 := 40) pm_a143_192 rfl rfl rfl rfl rfl rfl rfl ?_
  show pm_E _ _ _ 194 [(0, .ref 18)] [.ref 40, .ref 18] _ _ _ _
  refine pm_e_wr pm_a143_194 rfl rfl rfl rfl rfl ?_
  show pm_E _ _ _ 197 [(0, .ref 18)] [] _ _ _ _
  refine pm_e_sim pm_a143_197 rfl ?_
  show pm_E _ _ _ 198 [(0, .ref 18)] [.ref 18] _ _ _ _
  refine pm_e_sim pm_a143_198 rfl ?_
  refine pm_e_top (y := 9000) (by decide +kernel) ?_
  show pm_E _ _ _ 201 [(0, .ref 18)] [.int 9000, .ref 18] _ _ _ _
  refine pm_e_nw (k2 := 41) pm_a143_201 rfl rfl rfl rfl rfl rfl rfl ?_
  show pm_E _ _ _ 203 [(0, .ref 18)] [.ref 41, .ref 18] _ _ _ _
  refine pm_e_wr pm_a143_203 rfl rfl rfl rfl rfl ?_
  show pm_E _ _ _ 206 [(0, .ref 18)] [] _ _ _ _
  refine pm_e_sim pm_a143_206 rfl ?_
  show pm_E _ _ _ 207 [(0, .ref 18)] [.ref 18] _ _ _ _
  refine pm_e_sim pm_a143_207 rfl ?_
  refine pm_e_top (y := 500) (by decide +kernel) ?_
  show pm_E _ _ _ 210 [(0, .ref 18)] [.int 500, .ref 18] _ _ _ _
  refine pm_e_nw (k2 := 42) pm_a143_210 rfl rfl rfl rfl rfl rfl rfl ?_
  show pm_E _ _ _ 212 [(0, .ref 18)] [.ref 42, .ref 18] _ _ _ _
  refine pm_e_wr pm_a143_212 rfl rfl rfl rfl rfl ?_
  show pm_E _ _ _ 215 [(0, .ref 18)] [] _ _ _ _
  refine pm_e_sim pm_a143_215 rfl ?_
  show pm_E _ _ _ 216 [(0, .ref 18)] [.ref 18] _ _ _ _
  refine pm_e_sim pm_a143_216 rfl ?_
  refine pm_e_top (y := 500) (by decide +kernel) ?_
  show pm_E _ _ _ 219 [(0, .ref 18)] [.int 500, .ref 18] _ _ _ _
  refine pm_e_nw (k2 := 43) pm_a143_219 rfl rfl rfl rfl rfl rfl rfl ?_
  show pm_E _ _ _ 221 [(0, .ref 18)] [.ref 43, .ref 18] _ _ _ _
  refine pm_e_wr pm_a143_221 rfl rfl rfl rfl rfl ?_
  show pm_E _ _ _ 224 [(0, .ref 18)] [] _ _ _ _
  refine pm_e_sim pm_a143_224 rfl ?_
  show pm_E _ _ _ 225 [(0, .ref 18)] [.ref 18] _ _ _ _
  refine pm_e_sim pm_a143_225 rfl ?_
  refine pm_e_top (y := 501) (by decide +kernel) ?_
  show pm_E _ _ _ 228 [(0, .ref 18)] [.int 501, .ref 18] _ _ _ _
  refine pm_e_nw (k2 := 44) pm_a143_228 rfl rfl rfl rfl rfl rfl rfl ?_
  show pm_E _ _ _ 230 [(0, .ref 18)] [.ref 44, .ref 18] _ _ _ _
  refine pm_e_wr pm_a143_230 rfl rfl rfl rfl rfl ?_
  show pm_E _ _ _ 233 [(0, .ref 18)] [] _ _ _ _
  refine pm_e_sim pm_a143_233 rfl ?_
  show pm_E _ _ _ 234 [(0, .ref 18)] [.ref 18] _ _ _ _
  refine pm_e_sim pm_a143_234 rfl ?_
  refine pm_e_top (y := 501) (by decide +kernel) ?_
  show pm_E _ _ _ 237 [(0, .ref 18)] [.int 501, .ref 18] _ _ _ _
  refine pm_e_nw (k2 := 45) pm_a143_237 rfl rfl rfl rfl rfl rfl rfl ?_
  show pm_E _ _ _ 239 [(0, .ref 18)] [.ref 45, .ref 18] _ _ _ _
  refine pm_e_wr pm_a143_239 rfl rfl rfl rfl rfl ?_
  show pm_E _ _ _ 242 [(0, .ref 18)] [] _ _ _ _
  refine pm_e_sim pm_a143_242 rfl ?_
  show pm_E _ _ _ 243 [(0, .ref 18)] [.ref 18] _ _ _ _
  refine pm_e_sim pm_a143_243 rfl ?_
  refine pm_e_top (y := 500) (by decide +kernel) ?_
  show pm_E _ _ _ 246 [(0, .ref 18)] [.int 500, .ref 18] _ _ _ _
  refine pm_e_nw (k2 := 46) pm_a143_246 rfl rfl rfl rfl rfl rfl rfl ?_
  show pm_E _ _ _ 248 [(0, .ref 18)] [.ref 46, .ref 18] _ _ _ _
  refine pm_e_wr pm_a143_248 rfl rfl rfl rfl rfl ?_
  show pm_E _ _ _ 251 [(0, .ref 18)] [] _ _ _ _
  refine pm_e_sim pm_a143_251 rfl ?_
  show pm_E _ _ _ 252 [(0, .ref 18)] [.ref 18] _ _ _ _
  refine pm_e_sim pm_a143_252 rfl ?_
  refine pm_e_top (y := 500) (by decide +kernel) ?_
  show pm_E _ _ _ 255 [(0, .ref 18)] [.int 500, .ref 18] _ _ _ _
  refine pm_e_nw (k2 := 47) pm_a143_255 rfl rfl rfl rfl rfl rfl rfl ?_
  show pm_E _ _ _ 257 [(0, .ref 18)] [.ref 47, .ref 18] _ _ _ _
  refine pm_e_wr pm_a143_257 rfl rfl rfl rfl rfl ?_
  show pm_E _ _ _ 260 [(0, .ref 18)] [] _ _ _ _
  refine pm_e_sim pm_a143_260 rfl ?_
  show pm_E _ _ _ 261 [(0, .ref 18)] [.ref 18] _ _ _ _
  refine pm_e_sim pm_a143_261 rfl ?_
  refine pm_e_top (y := 9000) (by decide +kernel) ?_
  show pm_E _ _ _ 264 [(0, .ref 18)] [.int 9000, .ref 18] _ _ _ _
  refine pm_e_nw (k2 := 48) pm_a143_264 rfl rfl rfl rfl rfl rfl rfl ?_
  show pm_E _ _ _ 266 [(0, .ref 18)] [.ref 48, .ref 18] _ _ _ _
  refine pm_e_wr pm_a143_266 rfl rfl rfl rfl rfl ?_
  show pm_E _ _ _ 269 [(0, .ref 18)] [] _ _ _ _
  refine pm_e_sim pm_a143_269 rfl ?_
  show pm_E _ _ _ 270 [(0, .ref 18)] [.ref 18] _ _ _ _
  refine pm_e_sim pm_a143_270 rfl ?_
  refine pm_e_top (y := 9000) (by decide +kernel) ?_
  show pm_E _ _ _ 273 [(0, .ref 18)] [.int 9000, .ref 18] _ _ _ _
  refine pm_e_nw (k2 := 49) pm_a143_273 rfl rfl rfl rfl rfl rfl rfl ?_
  show pm_E _ _ _ 275 [(0, .ref 18)] [.ref 49, .ref 18] _ _ _ _
  refine pm_e_wr pm_a143_275 rfl rfl rfl rfl rfl ?_
  show pm_E _ _ _ 278 [(0, .ref 18)] [] _ _ _ _
  refine pm_e_ret pm_a143_278 rfl rfl rfl rfl rfl rfl rfl rfl ?_
  show pm_E _ _ _ 15 [(0, .retAddr 0), (1, .ref 0)] [.ref 18] _ _ _ _
  refine pm_e_sim pm_a0_15 rfl ?_
  show pm_E _ _ _ 16 [(0, .retAddr 0), (1, .ref 0), (2, .ref 18)] [] _ _ _ _
  refine pm_e_sim pm_a0_16 rfl ?_
  refine pm_e_top (y := 0) (by decide +kernel) ?_
  show pm_E _ _ _ 17 [(0, .retAddr 0), (1, .ref 0), (2, .ref 18)] [.int 0] _ _ _ _
  refine pm_e_sim pm_a0_17 rfl ?_
  show pm_E _ _ _ 18 [(0, .retAddr 0), (1, .ref 0), (2, .ref 18), (3, .int 0)] [] _ _ _ _
  exact k
