/-! one call on a fresh object -/
set_option maxHeartbeats 40000000 in
set_option maxRecDepth 200000 in
theorem pm_op0 (xs : Nat → Int32) {Q : Option Value → List va_E → Nat → Nat → Prop} (hQ : ∀ ph c n, c ≤ 600000 → n ≤ 7302250 → Q (some (.int 1)) ph c n) : pm_E (some (6, xs)) 11 pm_mm0 33 pm_L0 [.int (nI 0)] pm_H0 50 194358 Q := by
  refine pm_e_top (y := 0) (by decide +kernel) ?_
  refine pm_e_tsi (t := 140) pm_a0_33 rfl (by decide +kernel) ?_
  show pm_E _ _ _ 140 [(3, .int 0), (2, .ref 18), (1, .ref 0), (0, .retAddr 0)] [] _ _ _ _
  refine pm_e_sim pm_a0_140 rfl ?_
  show pm_E _ _ _ 141 [(3, .int 0), (2, .ref 18), (1, .ref 0), (0, .retAddr 0)] [.ref 0] _ _ _ _
  refine pm_e_sim pm_a0_141 rfl ?_
  show pm_E _ _ _ 142 [(3, .int 0), (2, .ref 18), (1, .ref 0), (0, .retAddr 0)] [.retAddr 0, .ref 0] _ _ _ _
  refine pm_e_sim pm_a0_142 rfl ?_
  show pm_E _ _ _ 143 [(3, .int 0), (2, .ref 18), (1, .ref 0), (0, .retAddr 0)] [.int 0, .retAddr 0, .ref 0] _ _ _ _
  refine pm_e_sim pm_a0_143 rfl ?_
  refine pm_e_top (y := 1) (by decide +kernel) ?_
  show pm_E _ _ _ 144 [(3, .int 0), (2, .ref 18), (1, .ref 0), (0, .retAddr 0)] [.int 1, .int 0, .retAddr 0, .ref 0] _ _ _ _
  refine pm_e_sim pm_a0_144 rfl ?_
  refine pm_e_top (y := 1) (by decide +kernel) ?_
  show pm_E _ _ _ 145 [(3, .int 0), (2, .ref 18), (1, .ref 0), (0, .retAddr 0)] [.int 1, .retAddr 0, .ref 0] _ _ _ _
  refine pm_e_sld (j := 1) pm_a0_145 (by decide +kernel) ?_
  show pm_E _ _ _ 146 [(3, .int 0), (2, .ref 18), (1, .ref 0), (0, .retAddr 0)] [.int _, .ref 0] _ _ _ _
  refine pm_e_sim pm_a0_146 rfl ?_
  show pm_E _ _ _ 147 [(3, .int 0), (2, .ref 18), (1, .ref 0), (0, .retAddr 0)] [.retAddr 0, .int _, .ref 0] _ _ _ _
  refine pm_e_sim pm_a0_147 rfl ?_
  show pm_E _ _ _ 148 [(3, .int 0), (2, .ref 18), (1, .ref 0), (0, .retAddr 0)] [.int 0, .retAddr 0, .int _, .ref 0] _ _ _ _
  refine pm_e_sim pm_a0_148 rfl ?_
  refine pm_e_top (y := 2) (by decide +kernel) ?_
  show pm_E _ _ _ 149 [(3, .int 0), (2, .ref 18), (1, .ref 0), (0, .retAddr 0)] [.int 2, .int 0, .retAddr 0, .int _, .ref 0] _ _ _ _
  refine pm_e_sim pm_a0_149 rfl ?_
  refine pm_e_top (y := 2) (by decide +kernel) ?_
  show pm_E _ _ _ 150 [(3, .int 0), (2, .ref 18), (1, .ref 0), (0, .retAddr 0)] [.int 2, .retAddr 0, .int _, .ref 0] _ _ _ _
  refine pm_e_sld (j := 2) pm_a0_150 (by decide +kernel) ?_
  show pm_E _ _ _ 151 [(3, .int 0), (2, .ref 18), (1, .ref 0), (0, .retAddr 0)] [.int _, .int _, .ref 0] _ _ _ _
  refine pm_e_sim pm_a0_151 rfl ?_
  show pm_E _ _ _ 152 [(3, .int 0), (2, .ref 18), (1, .ref 0), (0, .retAddr 0)] [.retAddr 0, .int _, .int _, .ref 0] _ _ _ _
  refine pm_e_sim pm_a0_152 rfl ?_
  show pm_E _ _ _ 153 [(3, .int 0), (2, .ref 18), (1, .ref 0), (0, .retAddr 0)] [.int 0, .retAddr 0, .int _, .int _, .ref 0] _ _ _ _
  refine pm_e_sim pm_a0_153 rfl ?_
  refine pm_e_top (y := 3) (by decide +kernel) ?_
  show pm_E _ _ _ 154 [(3, .int 0), (2, .ref 18), (1, .ref 0), (0, .retAddr 0)] [.int 3, .int 0, .retAddr 0, .int _, .int _, .ref 0] _ _ _ _
  refine pm_e_sim pm_a0_154 rfl ?_
  refine pm_e_top (y := 3) (by decide +kernel) ?_
  show pm_E _ _ _ 155 [(3, .int 0), (2, .ref 18), (1, .ref 0), (0, .retAddr 0)] [.int 3, .retAddr 0, .int _, .int _, .ref 0] _ _ _ _
  refine pm_e_sld (j := 3) pm_a0_155 (by decide +kernel) ?_
  show pm_E _ _ _ 156 [(3, .int 0), (2, .ref 18), (1, .ref 0), (0, .retAddr 0)] [.int _, .int _, .int _, .ref 0] _ _ _ _
  refine pm_e_sim pm_a0_156 rfl ?_
  show pm_E _ _ _ 157 [(3, .int 0), (2, .ref 18), (1, .ref 0), (0, .retAddr 0)] [.retAddr 0, .int _, .int _, .int _, .ref 0] _ _ _ _
  refine pm_e_sim pm_a0_157 rfl ?_
  show pm_E _ _ _ 158 [(3, .int 0), (2, .ref 18), (1, .ref 0), (0, .retAddr 0)] [.int 0, .retAddr 0, .int _, .int _, .int _, .ref 0] _ _ _ _
  refine pm_e_sim pm_a0_158 rfl ?_
  refine pm_e_top (y := 4) (by decide +kernel) ?_
  show pm_E _ _ _ 159 [(3, .int 0), (2, .ref 18), (1, .ref 0), (0, .retAddr 0)] [.int 4, .int 0, .retAddr 0, .int _, .int _, .int _, .ref 0] _ _ _ _
  refine pm_e_sim pm_a0_159 rfl ?_
  refine pm_e_top (y := 4) (by decide +kernel) ?_
  show pm_E _ _ _ 160 [(3, .int 0), (2, .ref 18), (1, .ref 0), (0, .retAddr 0)] [.int 4, .retAddr 0, .int _, .int _, .int _, .ref 0] _ _ _ _
  refine pm_e_sld (j := 4) pm_a0_160 (by decide +kernel) ?_
  show pm_E _ _ _ 161 [(3, .int 0), (2, .ref 18), (1, .ref 0), (0, .retAddr 0)] [.int _, .int _, .int _, .int _, .ref 0] _ _ _ _
  refine pm_e_sim pm_a0_161 rfl ?_
  show pm_E _ _ _ 162 [(3, .int 0), (2, .ref 18), (1, .ref 0), (0, .retAddr 0)] [.retAddr 0, .int _, .int _, .int _, .int _, .ref 0] _ _ _ _
  refine pm_e_sim pm_a0_162 rfl ?_
  show pm_E _ _ _ 163 [(3, .int 0), (2, .ref 18), (1, .ref 0), (0, .retAddr 0)] [.int 0, .retAddr 0, .int _, .int _, .int _, .int _, .ref 0] _ _ _ _
  refine pm_e_sim pm_a0_163 rfl ?_
  refine pm_e_top (y := 5) (by decide +kernel) ?_
  show pm_E _ _ _ 164 [(3, .int 0), (2, .ref 18), (1, .ref 0), (0, .retAddr 0)] [.int 5, .int 0, .retAddr 0, .int _, .int _, .int _, .int _, .ref 0] _ _ _ _
  refine pm_e_sim pm_a0_164 rfl ?_
  refine pm_e_top (y := 5) (by decide +kernel) ?_
  show pm_E _ _ _ 165 [(3, .int 0), (2, .ref 18), (1, .ref 0), (0, .retAddr 0)] [.int 5, .retAddr 0, .int _, .int _, .int _, .int _, .ref 0] _ _ _ _
  refine pm_e_sld (j := 5) pm_a0_165 (by decide +kernel) ?_
  show pm_E _ _ _ 166 [(3, .int 0), (2, .ref 18), (1, .ref 0), (0, .retAddr 0)] [.int _, .int _, .int _, .int _, .int _, .ref 0] _ _ _ _
  refine pm_e_call (T2 := pm_mm8) pm_a0_166 rfl rfl rfl rfl rfl rfl rfl rfl rfl ?_
  show pm_E _ _ _ 0 [(0, .ref 0), (1, .int _), (2, .int _), (3, .int _), (4, .int _), (5, .int _)] [] _ _ _ _
  refine pm_e_sim pm_a8_0 rfl ?_
  show pm_E _ _ _ 1 [(0, .ref 0), (1, .int _), (2, .int _), (3, .int _), (4, .int _), (5, .int _)] [.ref 0] _ _ _ _
  refine pm_e_rd pm_a8_1 rfl rfl rfl ?_
  show pm_E _ _ _ 4 [(0, .ref 0), (1, .int _), (2, .int _), (3, .int _), (4, .int _), (5, .int _)] [.ref 1] _ _ _ _
  refine pm_e_rd pm_a8_4 rfl rfl rfl ?_
  show pm_E _ _ _ 7 [(0, .ref 0), (1, .int _), (2, .int _), (3, .int _), (4, .int _), (5, .int _)] [.int 0] _ _ _ _
  refine pm_e_sim pm_a8_7 rfl ?_
  refine pm_e_top (y := 20) (by decide +kernel) ?_
  show pm_E _ _ _ 9 [(0, .ref 0), (1, .int _), (2, .int _), (3, .int _), (4, .int _), (5, .int _)] [.int 20, .int 0] _ _ _ _
  refine pm_e_sim pm_a8_9 rfl ?_
  refine pm_e_top (y := 20) (by decide +kernel) ?_
  show pm_E _ _ _ 10 [(0, .ref 0), (1, .int _), (2, .int _), (3, .int _), (4, .int _), (5, .int _)] [.int 20] _ _ _ _
  refine pm_e_sim pm_a8_10 rfl ?_
  refine pm_e_top (y := 600) (by decide +kernel) ?_
  show pm_E _ _ _ 13 [(0, .ref 0), (1, .int _), (2, .int _), (3, .int _), (4, .int _), (5, .int _)] [.int 600, .int 20] _ _ _ _
  refine pm_e_ict pm_a8_13 rfl (by decide +kernel) ?_
  show pm_E _ _ _ 19 [(0, .ref 0), (1, .int _), (2, .int _), (3, .int _), (4, .int _), (5, .int _)] [] _ _ _ _
  refine pm_e_sim pm_a8_19 rfl ?_
  show pm_E _ _ _ 20 [(0, .ref 0), (1, .int _), (2, .int _), (3, .int _), (4, .int _), (5, .int _)] [.ref 0] _ _ _ _
  refine pm_e_rd pm_a8_20 rfl rfl rfl ?_
  show pm_E _ _ _ 23 [(0, .ref 0), (1, .int _), (2, .int _), (3, .int _), (4, .int _), (5, .int _)] [.ref 1] _ _ _ _
  refine pm_e_sim pm_a8_23 rfl ?_
  show pm_E _ _ _ 24 [(0, .ref 0), (1, .int _), (2, .int _), (3, .int _), (4, .int _), (5, .int _)] [.int _, .ref 1] _ _ _ _
  refine pm_e_call (T2 := pm_mm9) pm_a8_24 rfl rfl rfl rfl rfl rfl rfl rfl rfl ?_
  show pm_E _ _ _ 0 [(0, .ref 1), (1, .int _)] [] _ _ _ _
  refine pm_e_sim pm_a9_0 rfl ?_
  refine pm_e_top (y := 24) (by decide +kernel) ?_
  show pm_E _ _ _ 2 [(0, .ref 1), (1, .int _)] [.int 24] _ _ _ _
  refine pm_e_sim pm_a9_2 rfl ?_
  show pm_E _ _ _ 3 [(2, .int 24), (0, .ref 1), (1, .int _)] [] _ _ _ _
  refine pm_e_sim pm_a9_3 rfl ?_
  show pm_E _ _ _ 4 [(2, .int 24), (0, .ref 1), (1, .int _)] [.int 24] _ _ _ _
  refine pm_e_iff pm_a9_4 rfl (by decide +kernel) ?_
  show pm_E _ _ _ 7 [(2, .int 24), (0, .ref 1), (1, .int _)] [] _ _ _ _
  refine pm_e_sim pm_a9_7 rfl ?_
  show pm_E _ _ _ 8 [(2, .int 24), (0, .ref 1), (1, .int _)] [.ref 1] _ _ _ _
  refine pm_e_rd pm_a9_8 rfl rfl rfl ?_
  show pm_E _ _ _ 11 [(2, .int 24), (0, .ref 1), (1, .int _)] [.int 0] _ _ _ _
  refine pm_e_sim pm_a9_11 rfl ?_
  show pm_E _ _ _ 12 [(2, .int 24), (0, .ref 1), (1, .int _)] [.ref 1, .int 0] _ _ _ _
  refine pm_e_rd pm_a9_12 rfl rfl rfl ?_
  show pm_E _ _ _ 15 [(2, .int 24), (0, .ref 1), (1, .int _)] [.ref 2, .int 0] _ _ _ _
  refine pm_e_rd pm_a9_15 rfl rfl rfl ?_
  dsimp only
  refine pm_e_top (y := 600) (by decide +kernel) ?_
  show pm_E _ _ _ 16 [(2, .int 24), (0, .ref 1), (1, .int _)] [.int 600, .int 0] _ _ _ _
  refine pm_e_icf pm_a9_16 rfl (by decide +kernel) ?_
  show pm_E _ _ _ 19 [(2, .int 24), (0, .ref 1), (1, .int _)] [] _ _ _ _
  refine pm_e_sim pm_a9_19 rfl ?_
  show pm_E _ _ _ 20 [(2, .int 24), (0, .ref 1), (1, .int _)] [.ref 1] _ _ _ _
  refine pm_e_rd pm_a9_20 rfl rfl rfl ?_
  show pm_E _ _ _ 23 [(2, .int 24), (0, .ref 1), (1, .int _)] [.ref 2] _ _ _ _
  refine pm_e_sim pm_a9_23 rfl ?_
  show pm_E _ _ _ 24 [(2, .int 24), (0, .ref 1), (1, .int _)] [.ref 1, .ref 2] _ _ _ _
  refine pm_e_rd pm_a9_24 rfl rfl rfl ?_
  show pm_E _ _ _ 27 [(2, .int 24), (0, .ref 1), (1, .int _)] [.int 0, .ref 2] _ _ _ _
  refine pm_e_sim pm_a9_27 rfl ?_
  show pm_E _ _ _ 28 [(2, .int 24), (0, .ref 1), (1, .int _)] [.int _, .int 0, .ref 2] _ _ _ _
  refine pm_e_sim pm_a9_28 rfl ?_
  show pm_E _ _ _ 29 [(2, .int 24), (0, .ref 1), (1, .int _)] [.int 24, .int _, .int 0, .ref 2] _ _ _ _
  refine pm_e_sim pm_a9_29 rfl ?_
  show pm_E _ _ _ 30 [(2, .int 24), (0, .ref 1), (1, .int _)] [.int _, .int 0, .ref 2] _ _ _ _
  refine pm_e_sim pm_a9_30 rfl ?_
  refine pm_e_top (y := 255) (by decide +kernel) ?_
  show pm_E _ _ _ 33 [(2, .int 24), (0, .ref 1), (1, .int _)] [.int 255, .int _, .int 0, .ref 2] _ _ _ _
  refine pm_e_sim pm_a9_33 rfl ?_
  show pm_E _ _ _ 34 [(2, .int 24), (0, .ref 1), (1, .int _)] [.int _, .int 0, .ref 2] _ _ _ _
  refine pm_e_wr pm_a9_34 rfl rfl rfl rfl rfl ?_
  show pm_E _ _ _ 35 [(2, .int 24), (0, .ref 1), (1, .int _)] [] (pm_H0.set 2 (.inl (0, 600, .inl _))) _ _ _
  refine pm_e_sim pm_a9_35 rfl ?_
  show pm_E _ _ _ 36 [(2, .int 24), (0, .ref 1), (1, .int _)] [.ref 1] _ _ _ _
  refine pm_e_sim pm_a9_36 rfl ?_
  show pm_E _ _ _ 37 [(2, .int 24), (0, .ref 1), (1, .int _)] [.ref 1, .ref 1] _ _ _ _
  refine pm_e_rd pm_a9_37 rfl rfl rfl ?_
  show pm_E _ _ _ 40 [(2, .int 24), (0, .ref 1), (1, .int _)] [.int 0, .ref 1] _ _ _ _
  refine pm_e_sim pm_a9_40 rfl ?_
  refine pm_e_top (y := 1) (by decide +kernel) ?_
  show pm_E _ _ _ 41 [(2, .int 24), (0, .ref 1), (1, .int _)] [.int 1, .int 0, .ref 1] _ _ _ _
  refine pm_e_sim pm_a9_41 rfl ?_
  refine pm_e_top (y := 1) (by decide +kernel) ?_
  show pm_E _ _ _ 42 [(2, .int 24), (0, .ref 1), (1, .int _)] [.int 1, .ref 1] _ _ _ _
  refine pm_e_wr pm_a9_42 rfl rfl rfl rfl rfl ?_
  show pm_E _ _ _ 45 [(2, .int 24), (0, .ref 1), (1, .int _)] [] ((pm_H0.set 1 (.inr (4, [.ref 2, .int 1]))).set 2 (.inl (0, 600, .inl _))) _ _ _
  refine pm_e_inc (y := 16) pm_a9_45 rfl (by decide +kernel) (by decide +kernel) rfl ?_
  show pm_E _ _ _ 48 [(2, .int 16), (0, .ref 1), (1, .int _)] [] _ _ _ _
  refine pm_e_goto pm_a9_48 rfl ?_
  show pm_E _ _ _ 3 [(2, .int 16), (0, .ref 1), (1, .int _)] [] _ _ _ _
  refine pm_e_sim pm_a9_3 rfl ?_
  show pm_E _ _ _ 4 [(2, .int 16), (0, .ref 1), (1, .int _)] [.int 16] _ _ _ _
  refine pm_e_iff pm_a9_4 rfl (by decide +kernel) ?_
  show pm_E _ _ _ 7 [(2, .int 16), (0, .ref 1), (1, .int _)] [] _ _ _ _
  refine pm_e_sim pm_a9_7 rfl ?_
  show pm_E _ _ _ 8 [(2, .int 16), (0, .ref 1), (1, .int _)] [.ref 1] _ _ _ _
  refine pm_e_rd pm_a9_8 rfl rfl rfl ?_
  show pm_E _ _ _ 11 [(2, .int 16), (0, .ref 1), (1, .int _)] [.int 1] _ _ _ _
  refine pm_e_sim pm_a9_11 rfl ?_
  show pm_E _ _ _ 12 [(2, .int 16), (0, .ref 1), (1, .int _)] [.ref 1, .int 1] _ _ _ _
  refine pm_e_rd pm_a9_12 rfl rfl rfl ?_
  show pm_E _ _ _ 15 [(2, .int 16), (0, .ref 1), (1, .int _)] [.ref 2, .int 1] _ _ _ _
  refine pm_e_rd pm_a9_15 rfl rfl rfl ?_
  dsimp only
  refine pm_e_top (y := 600) (by decide +kernel) ?_
  show pm_E _ _ _ 16 [(2, .int 16), (0, .ref 1), (1, .int _)] [.int 600, .int 1] _ _ _ _
  refine pm_e_icf pm_a9_16 rfl (by decide +kernel) ?_
  show pm_E _ _ _ 19 [(2, .int 16), (0, .ref 1), (1, .int _)] [] _ _ _ _
  refine pm_e_sim pm_a9_19 rfl ?_
  show pm_E _ _ _ 20 [(2, .int 16), (0, .ref 1), (1, .int _)] [.ref 1] _ _ _ _
  refine pm_e_rd pm_a9_20 rfl rfl rfl ?_
  show pm_E _ _ _ 23 [(2, .int 16), (0, .ref 1), (1, .int _)] [.ref 2] _ _ _ _
  refine pm_e_sim pm_a9_23 rfl ?_
  show pm_E _ _ _ 24 [(2, .int 16), (0, .ref 1), (1, .int _)] [.ref 1, .ref 2] _ _ _ _
  refine pm_e_rd pm_a9_24 rfl rfl rfl ?_
  show pm_E _ _ _ 27 [(2, .int 16), (0, .ref 1), (1, .int _)] [.int 1, .ref 2] _ _ _ _
  refine pm_e_sim pm_a9_27 rfl ?_
  show pm_E _ _ _ 28 [(2, .int 16), (0, .ref 1), (1, .int _)] [.int _, .int 1, .ref 2] _ _ _ _
  refine pm_e_sim pm_a9_28 rfl ?_
  show pm_E _ _ _ 29 [(2, .int 16), (0, .ref 1), (1, .int _)] [.int 16, .int _, .int 1, .ref 2] _ _ _ _
  refine pm_e_sim pm_a9_29 rfl ?_
  show pm_E _ _ _ 30 [(2, .int 16), (0, .ref 1), (1, .int _)] [.int _, .int 1, .ref 2] _ _ _ _
  refine pm_e_sim pm_a9_30 rfl ?_
  refine pm_e_top (y := 255) (by decide +kernel) ?_
  show pm_E _ _ _ 33 [(2, .int 16), (0, .ref 1), (1, .int _)] [.int 255, .int _, .int 1, .ref 2] _ _ _ _
  refine pm_e_sim pm_a9_33 rfl ?_
  show pm_E _ _ _ 34 [(2, .int 16), (0, .ref 1), (1, .int _)] [.int _, .int 1, .ref 2] _ _ _ _
  refine pm_e_wr pm_a9_34 rfl rfl rfl rfl rfl ?_
  show pm_E _ _ _ 35 [(2, .int 16), (0, .ref 1), (1, .int _)] [] ((pm_H0.set 1 (.inr (4, [.ref 2, .int 1]))).set 2 (.inl (0, 600, .inl _))) _ _ _
  refine pm_e_sim pm_a9_35 rfl ?_
  show pm_E _ _ _ 36 [(2, .int 16), (0, .ref 1), (1, .int _)] [.ref 1] _ _ _ _
  refine pm_e_sim pm_a9_36 rfl ?_
  show pm_E _ _ _ 37 [(2, .int 16), (0, .ref 1), (1, .int _)] [.ref 1, .ref 1] _ _ _ _
  refine pm_e_rd pm_a9_37 rfl rfl rfl ?_
  show pm_E _ _ _ 40 [(2, .int 16), (0, .ref 1), (1, .int _)] [.int 1, .ref 1] _ _ _ _
  refine pm_e_sim pm_a9_40 rfl ?_
  refine pm_e_top (y := 1) (by decide +kernel) ?_
  show pm_E _ _ _ 41 [(2, .int 16), (0, .ref 1), (1, .int _)] [.int 1, .int 1, .ref 1] _ _ _ _
  refine pm_e_sim pm_a9_41 rfl ?_
  refine pm_e_top (y := 2) (by decide +kernel) ?_
  show pm_E _ _ _ 42 [(2, .int 16), (0, .ref 1), (1, .int _)] [.int 2, .ref 1] _ _ _ _
  refine pm_e_wr pm_a9_42 rfl rfl rfl rfl rfl ?_
  show pm_E _ _ _ 45 [(2, .int 16), (0, .ref 1), (1, .int _)] [] ((pm_H0.set 1 (.inr (4, [.ref 2, .int 2]))).set 2 (.inl (0, 600, .inl _))) _ _ _
  refine pm_e_inc (y := 8) pm_a9_45 rfl (by decide +kernel) (by decide +kernel) rfl ?_
  show pm_E _ _ _ 48 [(2, .int 8), (0, .ref 1), (1, .int _)] [] _ _ _ _
  refine pm_e_goto pm_a9_48 rfl ?_
  show pm_E _ _ _ 3 [(2, .int 8), (0, .ref 1), (1, .int _)] [] _ _ _ _
  refine pm_e_sim pm_a9_3 rfl ?_
  show pm_E _ _ _ 4 [(2, .int 8), (0, .ref 1), (1, .int _)] [.int 8] _ _ _ _
  refine pm_e_iff pm_a9_4 rfl (by decide +kernel) ?_
  show pm_E _ _ _ 7 [(2, .int 8), (0, .ref 1), (1, .int _)] [] _ _ _ _
  refine pm_e_sim pm_a9_7 rfl ?_
  show pm_E _ _ _ 8 [(2, .int 8), (0, .ref 1), (1, .int _)] [.ref 1] _ _ _ _
  refine pm_e_rd pm_a9_8 rfl rfl rfl ?_
  show pm_E _ _ _ 11 [(2, .int 8), (0, .ref 1), (1, .int _)] [.int 2] _ _ _ _
  refine pm_e_sim pm_a9_11 rfl ?_
  show pm_E _ _ _ 12 [(2, .int 8), (0, .ref 1), (1, .int _)] [.ref 1, .int 2] _ _ _ _
  refine pm_e_rd pm_a9_12 rfl rfl rfl ?_
  show pm_E _ _ _ 15 [(2, .int 8), (0, .ref 1), (1, .int _)] [.ref 2, .int 2] _ _ _ _
  refine pm_e_rd pm_a9_15 rfl rfl rfl ?_
  dsimp only
  refine pm_e_top (y := 600) (by decide +kernel) ?_
  show pm_E _ _ _ 16 [(2, .int 8), (0, .ref 1), (1, .int _)] [.int 600, .int 2] _ _ _ _
  refine pm_e_icf pm_a9_16 rfl (by decide +kernel) ?_
  show pm_E _ _ _ 19 [(2, .int 8), (0, .ref 1), (1, .int _)] [] _ _ _ _
  refine pm_e_sim pm_a9_19 rfl ?_
  show pm_E _ _ _ 20 [(2, .int 8), (0, .ref 1), (1, .int _)] [.ref 1] _ _ _ _
  refine pm_e_rd pm_a9_20 rfl rfl rfl ?_
  show pm_E _ _ _ 23 [(2, .int 8), (0, .ref 1), (1, .int _)] [.ref 2] _ _ _ _
  refine pm_e_sim pm_a9_23 rfl ?_
  show pm_E _ _ _ 24 [(2, .int 8), (0, .ref 1), (1, .int _)] [.ref 1, .ref 2] _ _ _ _
  refine pm_e_rd pm_a9_24 rfl rfl rfl ?_
  show pm_E _ _ _ 27 [(2, .int 8), (0, .ref 1), (1, .int _)] [.int 2, .ref 2] _ _ _ _
  refine pm_e_sim pm_a9_27 rfl ?_
  show pm_E _ _ _ 28 [(2, .int 8), (0, .ref 1), (1, .int _)] [.int _, .int 2, .ref 2] _ _ _ _
  refine pm_e_sim pm_a9_28 rfl ?_
  show pm_E _ _ _ 29 [(2, .int 8), (0, .ref 1), (1, .int _)] [.int 8, .int _, .int 2, .ref 2] _ _ _ _
  refine pm_e_sim pm_a9_29 rfl ?_
  show pm_E _ _ _ 30 [(2, .int 8), (0, .ref 1), (1, .int _)] [.int _, .int 2, .ref 2] _ _ _ _
  refine pm_e_sim pm_a9_30 rfl ?_
  refine pm_e_top (y := 255) (by decide +kernel) ?_
  show pm_E _ _ _ 33 [(2, .int 8), (0, .ref 1), (1, .int _)] [.int 255, .int _, .int 2, .ref 2] _ _ _ _
  refine pm_e_sim pm_a9_33 rfl ?_
  show pm_E _ _ _ 34 [(2, .int 8), (0, .ref 1), (1, .int _)] [.int _, .int 2, .ref 2] _ _ _ _
  refine pm_e_wr pm_a9_34 rfl rfl rfl rfl rfl ?_
  show pm_E _ _ _ 35 [(2, .int 8), (0, .ref 1), (1, .int _)] [] ((pm_H0.set 1 (.inr (4, [.ref 2, .int 2]))).set 2 (.inl (0, 600, .inl _))) _ _ _
  refine pm_e_sim pm_a9_35 rfl ?_
  show pm_E _ _ _ 36 [(2, .int 8), (0, .ref 1), (1, .int _)] [.ref 1] _ _ _ _
  refine pm_e_sim pm_a9_36 rfl ?_
  show pm_E _ _ _ 37 [(2, .int 8), (0, .ref 1), (1, .int _)] [.ref 1, .ref 1] _ _ _ _
  refine pm_e_rd pm_a9_37 rfl rfl rfl ?_
  show pm_E _ _ _ 40 [(2, .int 8), (0, .ref 1), (1, .int _)] [.int 2, .ref 1] _ _ _ _
  refine pm_e_sim pm_a9_40 rfl ?_
  refine pm_e_top (y := 1) (by decide +kernel) ?_
  show pm_E _ _ _ 41 [(2, .int 8), (0, .ref 1), (1, .int _)] [.int 1, .int 2, .ref 1] _ _ _ _
  refine pm_e_sim pm_a9_41 rfl ?_
  refine pm_e_top (y := 3) (by decide +kernel) ?_
  show pm_E _ _ _ 42 [(2, .int 8), (0, .ref 1), (1, .int _)] [.int 3, .ref 1] _ _ _ _
  refine pm_e_wr pm_a9_42 rfl rfl rfl rfl rfl ?_
  show pm_E _ _ _ 45 [(2, .int 8), (0, .ref 1), (1, .int _)] [] ((pm_H0.set 1 (.inr (4, [.ref 2, .int 3]))).set 2 (.inl (0, 600, .inl _))) _ _ _
  refine pm_e_inc (y := 0) pm_a9_45 rfl (by decide +kernel) (by decide +kernel) rfl ?_
  show pm_E _ _ _ 48 [(2, .int 0), (0, .ref 1), (1, .int _)] [] _ _ _ _
  refine pm_e_goto pm_a9_48 rfl ?_
  show pm_E _ _ _ 3 [(2, .int 0), (0, .ref 1), (1, .int _)] [] _ _ _ _
  refine pm_e_sim pm_a9_3 rfl ?_
  show pm_E _ _ _ 4 [(2, .int 0), (0, .ref 1), (1, .int _)] [.int 0] _ _ _ _
  refine pm_e_iff pm_a9_4 rfl (by decide +kernel) ?_
  show pm_E _ _ _ 7 [(2, .int 0), (0, .ref 1), (1, .int _)] [] _ _ _ _
  refine pm_e_sim pm_a9_7 rfl ?_
  show pm_E _ _ _ 8 [(2, .int 0), (0, .ref 1), (1, .int _)] [.ref 1] _ _ _ _
  refine pm_e_rd pm_a9_8 rfl rfl rfl ?_
  show pm_E _ _ _ 11 [(2, .int 0), (0, .ref 1), (1, .int _)] [.int 3] _ _ _ _
  refine pm_e_sim pm_a9_11 rfl ?_
  show pm_E _ _ _ 12 [(2, .int 0), (0, .ref 1), (1, .int _)] [.ref 1, .int 3] _ _ _ _
  refine pm_e_rd pm_a9_12 rfl rfl rfl ?_
  show pm_E _ _ _ 15 [(2, .int 0), (0, .ref 1), (1, .int _)] [.ref 2, .int 3] _ _ _ _
  refine pm_e_rd pm_a9_15 rfl rfl rfl ?_
  dsimp only
  refine pm_e_top (y := 600) (by decide +kernel) ?_
  show pm_E _ _ _ 16 [(2, .int 0), (0, .ref 1), (1, .int _)] [.int 600, .int 3] _ _ _ _
  refine pm_e_icf pm_a9_16 rfl (by decide +kernel) ?_
  show pm_E _ _ _ 19 [(2, .int 0), (0, .ref 1), (1, .int _)] [] _ _ _ _
  refine pm_e_sim pm_a9_19 rfl ?_
  show pm_E _ _ _ 20 [(2, .int 0), (0, .ref 1), (1, .int _)] [.ref 1] _ _ _ _
  refine pm_e_rd pm_a9_20 rfl rfl rfl ?_
  show pm_E _ _ _ 23 [(2, .int 0), (0, .ref 1), (1, .int _)] [.ref 2] _ _ _ _
  refine pm_e_sim pm_a9_23 rfl ?_
  show pm_E _ _ _ 24 [(2, .int 0), (0, .ref 1), (1, .int _)] [.ref 1, .ref 2] _ _ _ _
  refine pm_e_rd pm_a9_24 rfl rfl rfl ?_
  show pm_E _ _ _ 27 [(2, .int 0), (0, .ref 1), (1, .int _)] [.int 3, .ref 2] _ _ _ _
  refine pm_e_sim pm_a9_27 rfl ?_
  show pm_E _ _ _ 28 [(2, .int 0), (0, .ref 1), (1, .int _)] [.int _, .int 3, .ref 2] _ _ _ _
  refine pm_e_sim pm_a9_28 rfl ?_
  show pm_E _ _ _ 29 [(2, .int 0), (0, .ref 1), (1, .int _)] [.int 0, .int _, .int 3, .ref 2] _ _ _ _
  refine pm_e_sim pm_a9_29 rfl ?_
  show pm_E _ _ _ 30 [(2, .int 0), (0, .ref 1), (1, .int _)] [.int _, .int 3, .ref 2] _ _ _ _
  refine pm_e_sim pm_a9_30 rfl ?_
  refine pm_e_top (y := 255) (by decide +kernel) ?_
  show pm_E _ _ _ 33 [(2, .int 0), (0, .ref 1), (1, .int _)] [.int 255, .int _, .int 3, .ref 2] _ _ _ _
  refine pm_e_sim pm_a9_33 rfl ?_
  show pm_E _ _ _ 34 [(2, .int 0), (0, .ref 1), (1, .int _)] [.int _, .int 3, .ref 2] _ _ _ _
  refine pm_e_wr pm_a9_34 rfl rfl rfl rfl rfl ?_
  show pm_E _ _ _ 35 [(2, .int 0), (0, .ref 1), (1, .int _)] [] ((pm_H0.set 1 (.inr (4, [.ref 2, .int 3]))).set 2 (.inl (0, 600, .inl _))) _ _ _
  refine pm_e_sim pm_a9_35 rfl ?_
  show pm_E _ _ _ 36 [(2, .int 0), (0, .ref 1), (1, .int _)] [.ref 1] _ _ _ _
  refine pm_e_sim pm_a9_36 rfl ?_
  show pm_E _ _ _ 37 [(2, .int 0), (0, .ref 1), (1, .int _)] [.ref 1, .ref 1] _ _ _ _
  refine pm_e_rd pm_a9_37 rfl rfl rfl ?_
  show pm_E _ _ _ 40 [(2, .int 0), (0, .ref 1), (1, .int _)] [.int 3, .ref 1] _ _ _ _
  refine pm_e_sim pm_a9_40 rfl ?_
  refine pm_e_top (y := 1) (by decide +kernel) ?_
  show pm_E _ _ _ 41 [(2, .int 0), (0, .ref 1), (1, .int _)] [.int 1, .int 3, .ref 1] _ _ _ _
  refine pm_e_sim pm_a9_41 rfl ?_
  refine pm_e_top (y := 4) (by decide +kernel) ?_
  show pm_E _ _ _ 42 [(2, .int 0), (0, .ref 1), (1, .int _)] [.int 4, .ref 1] _ _ _ _
  refine pm_e_wr pm_a9_42 rfl rfl rfl rfl rfl ?_
  show pm_E _ _ _ 45 [(2, .int 0), (0, .ref 1), (1, .int _)] [] ((pm_H0.set 1 (.inr (4, [.ref 2, .int 4]))).set 2 (.inl (0, 600, .inl _))) _ _ _
  refine pm_e_inc (y := (-8)) pm_a9_45 rfl (by decide +kernel) (by decide +kernel) rfl ?_
  show pm_E _ _ _ 48 [(2, .int (-8)), (0, .ref 1), (1, .int _)] [] _ _ _ _
  refine pm_e_goto pm_a9_48 rfl ?_
  show pm_E _ _ _ 3 [(2, .int (-8)), (0, .ref 1), (1, .int _)] [] _ _ _ _
  refine pm_e_sim pm_a9_3 rfl ?_
  show pm_E _ _ _ 4 [(2, .int (-8)), (0, .ref 1), (1, .int _)] [.int (-8)] _ _ _ _
  refine pm_e_ift pm_a9_4 rfl (by decide +kernel) ?_
  show pm_E _ _ _ 51 [(2, .int (-8)), (0, .ref 1), (1, .int _)] [] _ _ _ _
  refine pm_e_ret pm_a9_51 rfl rfl rfl rfl rfl rfl rfl rfl ?_
  show pm_E _ _ _ 27 [(0, .ref 0), (1, .int _), (2, .int _), (3, .int _), (4, .int _), (5, .int _)] [] _ _ _ _
  refine pm_e_sim pm_a8_27 rfl ?_
  show pm_E _ _ _ 28 [(0, .ref 0), (1, .int _), (2, .int _), (3, .int _), (4, .int _), (5, .int _)] [.ref 0] _ _ _ _
  refine pm_e_rd pm_a8_28 rfl rfl rfl ?_
  show pm_E _ _ _ 31 [(0, .ref 0), (1, .int _), (2, .int _), (3, .int _), (4, .int _), (5, .int _)] [.ref 1] _ _ _ _
  refine pm_e_sim pm_a8_31 rfl ?_
  show pm_E _ _ _ 32 [(0, .ref 0), (1, .int _), (2, .int _), (3, .int _), (4, .int _), (5, .int _)] [.int _, .ref 1] _ _ _ _
  refine pm_e_call (T2 := pm_mm9) pm_a8_32 rfl rfl rfl rfl rfl rfl rfl rfl rfl ?_
  show pm_E _ _ _ 0 [(0, .ref 1), (1, .int _)] [] _ _ _ _
  refine pm_e_sim pm_a9_0 rfl ?_
  refine pm_e_top (y := 24) (by decide +kernel) ?_
  show pm_E _ _ _ 2 [(0, .ref 1), (1, .int _)] [.int 24] _ _ _ _
  refine pm_e_sim pm_a9_2 rfl ?_
  show pm_E _ _ _ 3 [(2, .int 24), (0, .ref 1), (1, .int _)] [] _ _ _ _
  refine pm_e_sim pm_a9_3 rfl ?_
  show pm_E _ _ _ 4 [(2, .int 24), (0, .ref 1), (1, .int _)] [.int 24] _ _ _ _
  refine pm_e_iff pm_a9_4 rfl (by decide +kernel) ?_
  show pm_E _ _ _ 7 [(2, .int 24), (0, .ref 1), (1, .int _)] [] _ _ _ _
  refine pm_e_sim pm_a9_7 rfl ?_
  show pm_E _ _ _ 8 [(2, .int 24), (0, .ref 1), (1, .int _)] [.ref 1] _ _ _ _
  refine pm_e_rd pm_a9_8 rfl rfl rfl ?_
  show pm_E _ _ _ 11 [(2, .int 24), (0, .ref 1), (1, .int _)] [.int 4] _ _ _ _
  refine pm_e_sim pm_a9_11 rfl ?_
  show pm_E _ _ _ 12 [(2, .int 24), (0, .ref 1), (1, .int _)] [.ref 1, .int 4] _ _ _ _
  refine pm_e_rd pm_a9_12 rfl rfl rfl ?_
  show pm_E _ _ _ 15 [(2, .int 24), (0, .ref 1), (1, .int _)] [.ref 2, .int 4] _ _ _ _
  refine pm_e_rd pm_a9_15 rfl rfl rfl ?_
  dsimp only
  refine pm_e_top (y := 600) (by decide +kernel) ?_
  show pm_E _ _ _ 16 [(2, .int 24), (0, .ref 1), (1, .int _)] [.int 600, .int 4] _ _ _ _
  refine pm_e_icf pm_a9_16 rfl (by decide +kernel) ?_
  show pm_E _ _ _ 19 [(2, .int 24), (0, .ref 1), (1, .int _)] [] _ _ _ _
  refine pm_e_sim pm_a9_19 rfl ?_
  show pm_E _ _ _ 20 [(2, .int 24), (0, .ref 1), (1, .int _)] [.ref 1] _ _ _ _
  refine pm_e_rd pm_a9_20 rfl rfl rfl ?_
  show pm_E _ _ _ 23 [(2, .int 24), (0, .ref 1), (1, .int _)] [.ref 2] _ _ _ _
  refine pm_e_sim pm_a9_23 rfl ?_
  show pm_E _ _ _ 24 [(2, .int 24), (0, .ref 1), (1, .int _)] [.ref 1, .ref 2] _ _ _ _
  refine pm_e_rd pm_a9_24 rfl rfl rfl ?_
  show pm_E _ _ _ 27 [(2, .int 24), (0, .ref 1), (1, .int _)] [.int 4, .ref 2] _ _ _ _
  refine pm_e_sim pm_a9_27 rfl ?_
  show pm_E _ _ _ 28 [(2, .int 24), (0, .ref 1), (1, .int _)] [.int _, .int 4, .ref 2] _ _ _ _
  refine pm_e_sim pm_a9_28 rfl ?_
  show pm_E _ _ _ 29 [(2, .int 24), (0, .ref 1), (1, .int _)] [.int 24, .int _, .int 4, .ref 2] _ _ _ _
  refine pm_e_sim pm_a9_29 rfl ?_
  show pm_E _ _ _ 30 [(2, .int 24), (0, .ref 1), (1, .int _)] [.int _, .int 4, .ref 2] _ _ _ _
  refine pm_e_sim pm_a9_30 rfl ?_
  refine pm_e_top (y := 255) (by decide +kernel) ?_
  show pm_E _ _ _ 33 [(2, .int 24), (0, .ref 1), (1, .int _)] [.int 255, .int _, .int 4, .ref 2] _ _ _ _
  refine pm_e_sim pm_a9_33 rfl ?_
  show pm_E _ _ _ 34 [(2, .int 24), (0, .ref 1), (1, .int _)] [.int _, .int 4, .ref 2] _ _ _ _
  refine pm_e_wr pm_a9_34 rfl rfl rfl rfl rfl ?_
  show pm_E _ _ _ 35 [(2, .int 24), (0, .ref 1), (1, .int _)] [] ((pm_H0.set 1 (.inr (4, [.ref 2, .int 4]))).set 2 (.inl (0, 600, .inl _))) _ _ _
  refine pm_e_sim pm_a9_35 rfl ?_
  show pm_E _ _ _ 36 [(2, .int 24), (0, .ref 1), (1, .int _)] [.ref 1] _ _ _ _
  refine pm_e_sim pm_a9_36 rfl ?_
  show pm_E _ _ _ 37 [(2, .int 24), (0, .ref 1), (1, .int _)] [.ref 1, .ref 1] _ _ _ _
  refine pm_e_rd pm_a9_37 rfl rfl rfl ?_
  show pm_E _ _ _ 40 [(2, .int 24), (0, .ref 1), (1, .int _)] [.int 4, .ref 1] _ _ _ _
  refine pm_e_sim pm_a9_40 rfl ?_
  refine pm_e_top (y := 1) (by decide +kernel) ?_
  show pm_E _ _ _ 41 [(2, .int 24), (0, .ref 1), (1, .int _)] [.int 1, .int 4, .ref 1] _ _ _ _
  refine pm_e_sim pm_a9_41 rfl ?_
  refine pm_e_top (y := 5) (by decide +kernel) ?_
  show pm_E _ _ _ 42 [(2, .int 24), (0, .ref 1), (1, .int _)] [.int 5, .ref 1] _ _ _ _
  refine pm_e_wr pm_a9_42 rfl rfl rfl rfl rfl ?_
  show pm_E _ _ _ 45 [(2, .int 24), (0, .ref 1), (1, .int _)] [] ((pm_H0.set 1 (.inr (4, [.ref 2, .int 5]))).set 2 (.inl (0, 600, .inl _))) _ _ _
  refine pm_e_inc (y := 16) pm_a9_45 rfl (by decide +kernel) (by decide +kernel) rfl ?_
  show pm_E _ _ _ 48 [(2, .int 16), (0, .ref 1), (1, .int _)] [] _ _ _ _
  refine pm_e_goto pm_a9_48 rfl ?_
  show pm_E _ _ _ 3 [(2, .int 16), (0, .ref 1), (1, .int _)] [] _ _ _ _
  refine pm_e_sim pm_a9_3 rfl ?_
  show pm_E _ _ _ 4 [(2, .int 16), (0, .ref 1), (1, .int _)] [.int 16] _ _ _ _
  refine pm_e_iff pm_a9_4 rfl (by decide +kernel) ?_
  show pm_E _ _ _ 7 [(2, .int 16), (0, .ref 1), (1, .int _)] [] _ _ _ _
  refine pm_e_sim pm_a9_7 rfl ?_
  show pm_E _ _ _ 8 [(2, .int 16), (0, .ref 1), (1, .int _)] [.ref 1] _ _ _ _
  refine pm_e_rd pm_a9_8 rfl rfl rfl ?_
  show pm_E _ _ _ 11 [(2, .int 16), (0, .ref 1), (1, .int _)] [.int 5] _ _ _ _
  refine pm_e_sim pm_a9_11 rfl ?_
  show pm_E _ _ _ 12 [(2, .int 16), (0, .ref 1), (1, .int _)] [.ref 1, .int 5] _ _ _ _
  refine pm_e_rd pm_a9_12 rfl rfl rfl ?_
  show pm_E _ _ _ 15 [(2, .int 16), (0, .ref 1), (1, .int _)] [.ref 2, .int 5] _ _ _ _
  refine pm_e_rd pm_a9_15 rfl rfl rfl ?_
  dsimp only
  refine pm_e_top (y := 600) (by decide +kernel) ?_
  show pm_E _ _ _ 16 [(2, .int 16), (0, .ref 1), (1, .int _)] [.int 600, .int 5] _ _ _ _
  refine pm_e_icf pm_a9_16 rfl (by decide +kernel) ?_
  show pm_E _ _ _ 19 [(2, .int 16), (0, .ref 1), (1, .int _)] [] _ _ _ _
  refine pm_e_sim pm_a9_19 rfl ?_
  show pm_E _ _ _ 20 [(2, .int 16), (0, .ref 1), (1, .int _)] [.ref 1] _ _ _ _
  refine pm_e_rd pm_a9_20 rfl rfl rfl ?_
  show pm_E _ _ _ 23 [(2, .int 16), (0, .ref 1), (1, .int _)] [.ref 2] _ _ _ _
  refine pm_e_sim pm_a9_23 rfl ?_
  show pm_E _ _ _ 24 [(2, .int 16), (0, .ref 1), (1, .int _)] [.ref 1, .ref 2] _ _ _ _
  refine pm_e_rd pm_a9_24 rfl rfl rfl ?_
  show pm_E _ _ _ 27 [(2, .int 16), (0, .ref 1), (1, .int _)] [.int 5, .ref 2] _ _ _ _
  refine pm_e_sim pm_a9_27 rfl ?_
  show pm_E _ _ _ 28 [(2, .int 16), (0, .ref 1), (1, .int _)] [.int _, .int 5, .ref 2] _ _ _ _
  refine pm_e_sim pm_a9_28 rfl ?_
  show pm_E _ _ _ 29 [(2, .int 16), (0, .ref 1), (1, .int _)] [.int 16, .int _, .int 5, .ref 2] _ _ _ _
  refine pm_e_sim pm_a9_29 rfl ?_
  show pm_E _ _ _ 30 [(2, .int 16), (0, .ref 1), (1, .int _)] [.int _, .int 5, .ref 2] _ _ _ _
  refine pm_e_sim pm_a9_30 rfl ?_
  refine pm_e_top (y := 255) (by decide +kernel) ?_
  show pm_E _ _ _ 33 [(2, .int 16), (0, .ref 1), (1, .int _)] [.int 255, .int _, .int 5, .ref 2] _ _ _ _
  refine pm_e_sim pm_a9_33 rfl ?_
  show pm_E _ _ _ 34 [(2, .int 16), (0, .ref 1), (1, .int _)] [.int _, .int 5, .ref 2] _ _ _ _
  refine pm_e_wr pm_a9_34 rfl rfl rfl rfl rfl ?_
  show pm_E _ _ _ 35 [(2, .int 16), (0, .ref 1), (1, .int _)] [] ((pm_H0.set 1 (.inr (4, [.ref 2, .int 5]))).set 2 (.inl (0, 600, .inl _))) _ _ _
  refine pm_e_sim pm_a9_35 rfl ?_
  show pm_E _ _ _ 36 [(2, .int 16), (0, .ref 1), (1, .int _)] [.ref 1] _ _ _ _
  refine pm_e_sim pm_a9_36 rfl ?_
  show pm_E _ _ _ 37 [(2, .int 16), (0, .ref 1), (1, .int _)] [.ref 1, .ref 1] _ _ _ _
  refine pm_e_rd pm_a9_37 rfl rfl rfl ?_
  show pm_E _ _ _ 40 [(2, .int 16), (0, .ref 1), (1, .int _)] [.int 5, .ref 1] _ _ _ _
  refine pm_e_sim pm_a9_40 rfl ?_
  refine pm_e_top (y := 1) (by decide +kernel) ?_
  show pm_E _ _ _ 41 [(2, .int 16), (0, .ref 1), (1, .int _)] [.int 1, .int 5, .ref 1] _ _ _ _
  refine pm_e_sim pm_a9_41 rfl ?_
  refine pm_e_top (y := 6) (by decide +kernel) ?_
  show pm_E _ _ _ 42 [(2, .int 16), (0, .ref 1), (1, .int _)] [.int 6, .ref 1] _ _ _ _
  refine pm_e_wr pm_a9_42 rfl rfl rfl rfl rfl ?_
  show pm_E _ _ _ 45 [(2, .int 16), (0, .ref 1), (1, .int _)] [] ((pm_H0.set 1 (.inr (4, [.ref 2, .int 6]))).set 2 (.inl (0, 600, .inl _))) _ _ _
  refine pm_e_inc (y := 8) pm_a9_45 rfl (by decide +kernel) (by decide +kernel) rfl ?_
  show pm_E _ _ _ 48 [(2, .int 8), (0, .ref 1), (1, .int _)] [] _ _ _ _
  refine pm_e_goto pm_a9_48 rfl ?_
  show pm_E _ _ _ 3 [(2, .int 8), (0, .ref 1), (1, .int _)] [] _ _ _ _
  refine pm_e_sim pm_a9_3 rfl ?_
  show pm_E _ _ _ 4 [(2, .int 8), (0, .ref 1), (1, .int _)] [.int 8] _ _ _ _
  refine pm_e_iff pm_a9_4 rfl (by decide +kernel) ?_
  show pm_E _ _ _ 7 [(2, .int 8), (0, .ref 1), (1, .int _)] [] _ _ _ _
  refine pm_e_sim pm_a9_7 rfl ?_
  show pm_E _ _ _ 8 [(2, .int 8), (0, .ref 1), (1, .int _)] [.ref 1] _ _ _ _
  refine pm_e_rd pm_a9_8 rfl rfl rfl ?_
  show pm_E _ _ _ 11 [(2, .int 8), (0, .ref 1), (1, .int _)] [.int 6] _ _ _ _
  refine pm_e_sim pm_a9_11 rfl ?_
  show pm_E _ _ _ 12 [(2, .int 8), (0, .ref 1), (1, .int _)] [.ref 1, .int 6] _ _ _ _
  refine pm_e_rd pm_a9_12 rfl rfl rfl ?_
  show pm_E _ _ _ 15 [(2, .int 8), (0, .ref 1), (1, .int _)] [.ref 2, .int 6] _ _ _ _
  refine pm_e_rd pm_a9_15 rfl rfl rfl ?_
  dsimp only
  refine pm_e_top (y := 600) (by decide +kernel) ?_
  show pm_E _ _ _ 16 [(2, .int 8), (0, .ref 1), (1, .int _)] [.int 600, .int 6] _ _ _ _
  refine pm_e_icf pm_a9_16 rfl (by decide +kernel) ?_
  show pm_E _ _ _ 19 [(2, .int 8), (0, .ref 1), (1, .int _)] [] _ _ _ _
  refine pm_e_sim pm_a9_19 rfl ?_
  show pm_E _ _ _ 20 [(2, .int 8), (0, .ref 1), (1, .int _)] [.ref 1] _ _ _ _
  refine pm_e_rd pm_a9_20 rfl rfl rfl ?_
  show pm_E _ _ _ 23 [(2, .int 8), (0, .ref 1), (1, .int _)] [.ref 2] _ _ _ _
  refine pm_e_sim pm_a9_23 rfl ?_
  show pm_E _ _ _ 24 [(2, .int 8), (0, .ref 1), (1, .int _)] [.ref 1, .ref 2] _ _ _ _
  refine pm_e_rd pm_a9_24 rfl rfl rfl ?_
  show pm_E _ _ _ 27 [(2, .int 8), (0, .ref 1), (1, .int _)] [.int 6, .ref 2] _ _ _ _
  refine pm_e_sim pm_a9_27 rfl ?_
  show pm_E _ _ _ 28 [(2, .int 8), (0, .ref 1), (1, .int _)] [.int _, .int 6, .ref 2] _ _ _ _
  refine pm_e_sim pm_a9_28 rfl ?_
  show pm_E _ _ _ 29 [(2, .int 8), (0, .ref 1), (1, .int _)] [.int 8, .int _, .int 6, .ref 2] _ _ _ _
  refine pm_e_sim pm_a9_29 rfl ?_
  show pm_E _ _ _ 30 [(2, .int 8), (0, .ref 1), (1, .int _)] [.int _, .int 6, .ref 2] _ _ _ _
  refine pm_e_sim pm_a9_30 rfl ?_
  refine pm_e_top (y := 255) (by decide +kernel) ?_
  show pm_E _ _ _ 33 [(2, .int 8), (0, .ref 1), (1, .int _)] [.int 255, .int _, .int 6, .ref 2] _ _ _ _
  refine pm_e_sim pm_a9_33 rfl ?_
  show pm_E _ _ _ 34 [(2, .int 8), (0, .ref 1), (1, .int _)] [.int _, .int 6, .ref 2] _ _ _ _
  refine pm_e_wr pm_a9_34 rfl rfl rfl rfl rfl ?_
  show pm_E _ _ _ 35 [(2, .int 8), (0, .ref 1), (1, .int _)] [] ((pm_H0.set 1 (.inr (4, [.ref 2, .int 6]))).set 2 (.inl (0, 600, .inl _))) _ _ _
  refine pm_e_sim pm_a9_35 rfl ?_
  show pm_E _ _ _ 36 [(2, .int 8), (0, .ref 1), (1, .int _)] [.ref 1] _ _ _ _
  refine pm_e_sim pm_a9_36 rfl ?_
  show pm_E _ _ _ 37 [(2, .int 8), (0, .ref 1), (1, .int _)] [.ref 1, .ref 1] _ _ _ _
  refine pm_e_rd pm_a9_37 rfl rfl rfl ?_
  show pm_E _ _ _ 40 [(2, .int 8), (0, .ref 1), (1, .int _)] [.int 6, .ref 1] _ _ _ _
  refine pm_e_sim pm_a9_40 rfl ?_
  refine pm_e_top (y := 1) (by decide +kernel) ?_
  show pm_E _ _ _ 41 [(2, .int 8), (0, .ref 1), (1, .int _)] [.int 1, .int 6, .ref 1] _ _ _ _
  refine pm_e_sim pm_a9_41 rfl ?_
  refine pm_e_top (y := 7) (by decide +kernel) ?_
  show pm_E _ _ _ 42 [(2, .int 8), (0, .ref 1), (1, .int _)] [.int 7, .ref 1] _ _ _ _
  refine pm_e_wr pm_a9_42 rfl rfl rfl rfl rfl ?_
  show pm_E _ _ _ 45 [(2, .int 8), (0, .ref 1), (1, .int _)] [] ((pm_H0.set 1 (.inr (4, [.ref 2, .int 7]))).set 2 (.inl (0, 600, .inl _))) _ _ _
  refine pm_e_inc (y := 0) pm_a9_45 rfl (by decide +kernel) (by decide +kernel) rfl ?_
  show pm_E _ _ _ 48 [(2, .int 0), (0, .ref 1), (1, .int _)] [] _ _ _ _
  refine pm_e_goto pm_a9_48 rfl ?_
  show pm_E _ _ _ 3 [(2, .int 0), (0, .ref 1), (1, .int _)] [] _ _ _ _
  refine pm_e_sim pm_a9_3 rfl ?_
  show pm_E _ _ _ 4 [(2, .int 0), (0, .ref 1), (1, .int _)] [.int 0] _ _ _ _
  refine pm_e_iff pm_a9_4 rfl (by decide +kernel) ?_
  show pm_E _ _ _ 7 [(2, .int 0), (0, .ref 1), (1, .int _)] [] _ _ _ _
  refine pm_e_sim pm_a9_7 rfl ?_
  show pm_E _ _ _ 8 [(2, .int 0), (0, .ref 1), (1, .int _)] [.ref 1] _ _ _ _
  refine pm_e_rd pm_a9_8 rfl rfl rfl ?_
  show pm_E _ _ _ 11 [(2, .int 0), (0, .ref 1), (1, .int _)] [.int 7] _ _ _ _
  refine pm_e_sim pm_a9_11 rfl ?_
  show pm_E _ _ _ 12 [(2, .int 0), (0, .ref 1), (1, .int _)] [.ref 1, .int 7] _ _ _ _
  refine pm_e_rd pm_a9_12 rfl rfl rfl ?_
  show pm_E _ _ _ 15 [(2, .int 0), (0, .ref 1), (1, .int _)] [.ref 2, .int 7] _ _ _ _
  refine pm_e_rd pm_a9_15 rfl rfl rfl ?_
  dsimp only
  refine pm_e_top (y := 600) (by decide +kernel) ?_
  show pm_E _ _ _ 16 [(2, .int 0), (0, .ref 1), (1, .int _)] [.int 600, .int 7] _ _ _ _
  refine pm_e_icf pm_a9_16 rfl (by decide +kernel) ?_
  show pm_E _ _ _ 19 [(2, .int 0), (0, .ref 1), (1, .int _)] [] _ _ _ _
  refine pm_e_sim pm_a9_19 rfl ?_
  show pm_E _ _ _ 20 [(2, .int 0), (0, .ref 1), (1, .int _)] [.ref 1] _ _ _ _
  refine pm_e_rd pm_a9_20 rfl rfl rfl ?_
  show pm_E _ _ _ 23 [(2, .int 0), (0, .ref 1), (1, .int _)] [.ref 2] _ _ _ _
  refine pm_e_sim pm_a9_23 rfl ?_
  show pm_E _ _ _ 24 [(2, .int 0), (0, .ref 1), (1, .int _)] [.ref 1, .ref 2] _ _ _ _
  refine pm_e_rd pm_a9_24 rfl rfl rfl ?_
  show pm_E _ _ _ 27 [(2, .int 0), (0, .ref 1), (1, .int _)] [.int 7, .ref 2] _ _ _ _
  refine pm_e_sim pm_a9_27 rfl ?_
  show pm_E _ _ _ 28 [(2, .int 0), (0, .ref 1), (1, .int _)] [.int _, .int 7, .ref 2] _ _ _ _
  refine pm_e_sim pm_a9_28 rfl ?_
  show pm_E _ _ _ 29 [(2, .int 0), (0, .ref 1), (1, .int _)] [.int 0, .int _, .int 7, .ref 2] _ _ _ _
  refine pm_e_sim pm_a9_29 rfl ?_
  show pm_E _ _ _ 30 [(2, .int 0), (0, .ref 1), (1, .int _)] [.int _, .int 7, .ref 2] _ _ _ _
  refine pm_e_sim pm_a9_30 rfl ?_
  refine pm_e_top (y := 255) (by decide +kernel) ?_
  show pm_E _ _ _ 33 [(2, .int 0), (0, .ref 1), (1, .int _)] [.int 255, .int _, .int 7, .ref 2] _ _ _ _
  refine pm_e_sim pm_a9_33 rfl ?_
  show pm_E _ _ _ 34 [(2, .int 0), (0, .ref 1), (1, .int _)] [.int _, .int 7, .ref 2] _ _ _ _
  refine pm_e_wr pm_a9_34 rfl rfl rfl rfl rfl ?_
  show pm_E _ _ _ 35 [(2, .int 0), (0, .ref 1), (1, .int _)] [] ((pm_H0.set 1 (.inr (4, [.ref 2, .int 7]))).set 2 (.inl (0, 600, .inl _))) _ _ _
  refine pm_e_sim pm_a9_35 rfl ?_
  show pm_E _ _ _ 36 [(2, .int 0), (0, .ref 1), (1, .int _)] [.ref 1] _ _ _ _
  refine pm_e_sim pm_a9_36 rfl ?_
  show pm_E _ _ _ 37 [(2, .int 0), (0, .ref 1), (1, .int _)] [.ref 1, .ref 1] _ _ _ _
  refine pm_e_rd pm_a9_37 rfl rfl rfl ?_
  show pm_E _ _ _ 40 [(2, .int 0), (0, .ref 1), (1, .int _)] [.int 7, .ref 1] _ _ _ _
  refine pm_e_sim pm_a9_40 rfl ?_
  refine pm_e_top (y := 1) (by decide +kernel) ?_
  show pm_E _ _ _ 41 [(2, .int 0), (0, .ref 1), (1, .int _)] [.int 1, .int 7, .ref 1] _ _ _ _
  refine pm_e_sim pm_a9_41 rfl ?_
  refine pm_e_top (y := 8) (by decide +kernel) ?_
  show pm_E _ _ _ 42 [(2, .int 0), (0, .ref 1), (1, .int _)] [.int 8, .ref 1] _ _ _ _
  refine pm_e_wr pm_a9_42 rfl rfl rfl rfl rfl ?_
  show pm_E _ _ _ 45 [(2, .int 0), (0, .ref 1), (1, .int _)] [] ((pm_H0.set 1 (.inr (4, [.ref 2, .int 8]))).set 2 (.inl (0, 600, .inl _))) _ _ _
  refine pm_e_inc (y := (-8)) pm_a9_45 rfl (by decide +kernel) (by decide +kernel) rfl ?_
  show pm_E _ _ _ 48 [(2, .int (-8)), (0, .ref 1), (1, .int _)] [] _ _ _ _
  refine pm_e_goto pm_a9_48 rfl ?_
  show pm_E _ _ _ 3 [(2, .int (-8)), (0, .ref 1), (1, .int _)] [] _ _ _ _
  refine pm_e_sim pm_a9_3 rfl ?_
  show pm_E _ _ _ 4 [(2, .int (-8)), (0, .ref 1), (1, .int _)] [.int (-8)] _ _ _ _
  refine pm_e_ift pm_a9_4 rfl (by decide +kernel) ?_
  show pm_E _ _ _ 51 [(2, .int (-8)), (0, .ref 1), (1, .int _)] [] _ _ _ _
  refine pm_e_ret pm_a9_51 rfl rfl rfl rfl rfl rfl rfl rfl ?_
  show pm_E _ _ _ 35 [(0, .ref 0), (1, .int _), (2, .int _), (3, .int _), (4, .int _), (5, .int _)] [] _ _ _ _
  refine pm_e_sim pm_a8_35 rfl ?_
  show pm_E _ _ _ 36 [(0, .ref 0), (1, .int _), (2, .int _), (3, .int _), (4, .int _), (5, .int _)] [.ref 0] _ _ _ _
  refine pm_e_rd pm_a8_36 rfl rfl rfl ?_
  show pm_E _ _ _ 39 [(0, .ref 0), (1, .int _), (2, .int _), (3, .int _), (4, .int _), (5, .int _)] [.ref 1] _ _ _ _
  refine pm_e_sim pm_a8_39 rfl ?_
  show pm_E _ _ _ 40 [(0, .ref 0), (1, .int _), (2, .int _), (3, .int _), (4, .int _), (5, .int _)] [.int _, .ref 1] _ _ _ _
  refine pm_e_call (T2 := pm_mm9) pm_a8_40 rfl rfl rfl rfl rfl rfl rfl rfl rfl ?_
  show pm_E _ _ _ 0 [(0, .ref 1), (1, .int _)] [] _ _ _ _
  refine pm_e_sim pm_a9_0 rfl ?_
  refine pm_e_top (y := 24) (by decide +kernel) ?_
  show pm_E _ _ _ 2 [(0, .ref 1), (1, .int _)] [.int 24] _ _ _ _
  refine pm_e_sim pm_a9_2 rfl ?_
  show pm_E _ _ _ 3 [(2, .int 24), (0, .ref 1), (1, .int _)] [] _ _ _ _
  refine pm_e_sim pm_a9_3 rfl ?_
  show pm_E _ _ _ 4 [(2, .int 24), (0, .ref 1), (1, .int _)] [.int 24] _ _ _ _
  refine pm_e_iff pm_a9_4 rfl (by decide +kernel) ?_
  show pm_E _ _ _ 7 [(2, .int 24), (0, .ref 1), (1, .int _)] [] _ _ _ _
  refine pm_e_sim pm_a9_7 rfl ?_
  show pm_E _ _ _ 8 [(2, .int 24), (0, .ref 1), (1, .int _)] [.ref 1] _ _ _ _
  refine pm_e_rd pm_a9_8 rfl rfl rfl ?_
  show pm_E _ _ _ 11 [(2, .int 24), (0, .ref 1), (1, .int _)] [.int 8] _ _ _ _
  refine pm_e_sim pm_a9_11 rfl ?_
  show pm_E _ _ _ 12 [(2, .int 24), (0, .ref 1), (1, .int _)] [.ref 1, .int 8] _ _ _ _
  refine pm_e_rd pm_a9_12 rfl rfl rfl ?_
  show pm_E _ _ _ 15 [(2, .int 24), (0, .ref 1), (1, .int _)] [.ref 2, .int 8] _ _ _ _
  refine pm_e_rd pm_a9_15 rfl rfl rfl ?_
  dsimp only
  refine pm_e_top (y := 600) (by decide +kernel) ?_
  show pm_E _ _ _ 16 [(2, .int 24), (0, .ref 1), (1, .int _)] [.int 600, .int 8] _ _ _ _
  refine pm_e_icf pm_a9_16 rfl (by decide +kernel) ?_
  show pm_E _ _ _ 19 [(2, .int 24), (0, .ref 1), (1, .int _)] [] _ _ _ _
  refine pm_e_sim pm_a9_19 rfl ?_
  show pm_E _ _ _ 20 [(2, .int 24), (0, .ref 1), (1, .int _)] [.ref 1] _ _ _ _
  refine pm_e_rd pm_a9_20 rfl rfl rfl ?_
  show pm_E _ _ _ 23 [(2, .int 24), (0, .ref 1), (1, .int _)] [.ref 2] _ _ _ _
  refine pm_e_sim pm_a9_23 rfl ?_
  show pm_E _ _ _ 24 [(2, .int 24), (0, .ref 1), (1, .int _)] [.ref 1, .ref 2] _ _ _ _
  refine pm_e_rd pm_a9_24 rfl rfl rfl ?_
  show pm_E _ _ _ 27 [(2, .int 24), (0, .ref 1), (1, .int _)] [.int 8, .ref 2] _ _ _ _
  refine pm_e_sim pm_a9_27 rfl ?_
  show pm_E _ _ _ 28 [(2, .int 24), (0, .ref 1), (1, .int _)] [.int _, .int 8, .ref 2] _ _ _ _
  refine pm_e_sim pm_a9_28 rfl ?_
  show pm_E _ _ _ 29 [(2, .int 24), (0, .ref 1), (1, .int _)] [.int 24, .int _, .int 8, .ref 2] _ _ _ _
  refine pm_e_sim pm_a9_29 rfl ?_
  show pm_E _ _ _ 30 [(2, .int 24), (0, .ref 1), (1, .int _)] [.int _, .int 8, .ref 2] _ _ _ _
  refine pm_e_sim pm_a9_30 rfl ?_
  refine pm_e_top (y := 255) (by decide +kernel) ?_
  show pm_E _ _ _ 33 [(2, .int 24), (0, .ref 1), (1, .int _)] [.int 255, .int _, .int 8, .ref 2] _ _ _ _
  refine pm_e_sim pm_a9_33 rfl ?_
  show pm_E _ _ _ 34 [(2, .int 24), (0, .ref 1), (1, .int _)] [.int _, .int 8, .ref 2] _ _ _ _
  refine pm_e_wr pm_a9_34 rfl rfl rfl rfl rfl ?_
  show pm_E _ _ _ 35 [(2, .int 24), (0, .ref 1), (1, .int _)] [] ((pm_H0.set 1 (.inr (4, [.ref 2, .int 8]))).set 2 (.inl (0, 600, .inl _))) _ _ _
  refine pm_e_sim pm_a9_35 rfl ?_
  show pm_E _ _ _ 36 [(2, .int 24), (0, .ref 1), (1, .int _)] [.ref 1] _ _ _ _
  refine pm_e_sim pm_a9_36 rfl ?_
  show pm_E _ _ _ 37 [(2, .int 24), (0, .ref 1), (1, .int _)] [.ref 1, .ref 1] _ _ _ _
  refine pm_e_rd pm_a9_37 rfl rfl rfl ?_
  show pm_E _ _ _ 40 [(2, .int 24), (0, .ref 1), (1, .int _)] [.int 8, .ref 1] _ _ _ _
  refine pm_e_sim pm_a9_40 rfl ?_
  refine pm_e_top (y := 1) (by decide +kernel) ?_
  show pm_E _ _ _ 41 [(2, .int 24), (0, .ref 1), (1, .int _)] [.int 1, .int 8, .ref 1] _ _ _ _
  refine pm_e_sim pm_a9_41 rfl ?_
  refine pm_e_top (y := 9) (by decide +kernel) ?_
  show pm_E _ _ _ 42 [(2, .int 24), (0, .ref 1), (1, .int _)] [.int 9, .ref 1] _ _ _ _
  refine pm_e_wr pm_a9_42 rfl rfl rfl rfl rfl ?_
  show pm_E _ _ _ 45 [(2, .int 24), (0, .ref 1), (1, .int _)] [] ((pm_H0.set 1 (.inr (4, [.ref 2, .int 9]))).set 2 (.inl (0, 600, .inl _))) _ _ _
  refine pm_e_inc (y := 16) pm_a9_45 rfl (by decide +kernel) (by decide +kernel) rfl ?_
  show pm_E _ _ _ 48 [(2, .int 16), (0, .ref 1), (1, .int _)] [] _ _ _ _
  refine pm_e_goto pm_a9_48 rfl ?_
  show pm_E _ _ _ 3 [(2, .int 16), (0, .ref 1), (1, .int _)] [] _ _ _ _
  refine pm_e_sim pm_a9_3 rfl ?_
  show pm_E _ _ _ 4 [(2, .int 16), (0, .ref 1), (1, .int _)] [.int 16] _ _ _ _
  refine pm_e_iff pm_a9_4 rfl (by decide +kernel) ?_
  show pm_E _ _ _ 7 [(2, .int 16), (0, .ref 1), (1, .int _)] [] _ _ _ _
  refine pm_e_sim pm_a9_7 rfl ?_
  show pm_E _ _ _ 8 [(2, .int 16), (0, .ref 1), (1, .int _)] [.ref 1] _ _ _ _
  refine pm_e_rd pm_a9_8 rfl rfl rfl ?_
  show pm_E _ _ _ 11 [(2, .int 16), (0, .ref 1), (1, .int _)] [.int 9] _ _ _ _
  refine pm_e_sim pm_a9_11 rfl ?_
  show pm_E _ _ _ 12 [(2, .int 16), (0, .ref 1), (1, .int _)] [.ref 1, .int 9] _ _ _ _
  refine pm_e_rd pm_a9_12 rfl rfl rfl ?_
  show pm_E _ _ _ 15 [(2, .int 16), (0, .ref 1), (1, .int _)] [.ref 2, .int 9] _ _ _ _
  refine pm_e_rd pm_a9_15 rfl rfl rfl ?_
  dsimp only
  refine pm_e_top (y := 600) (by decide +kernel) ?_
  show pm_E _ _ _ 16 [(2, .int 16), (0, .ref 1), (1, .int _)] [.int 600, .int 9] _ _ _ _
  refine pm_e_icf pm_a9_16 rfl (by decide +kernel) ?_
  show pm_E _ _ _ 19 [(2, .int 16), (0, .ref 1), (1, .int _)] [] _ _ _ _
  refine pm_e_sim pm_a9_19 rfl ?_
  show pm_E _ _ _ 20 [(2, .int 16), (0, .ref 1), (1, .int _)] [.ref 1] _ _ _ _
  refine pm_e_rd pm_a9_20 rfl rfl rfl ?_
  show pm_E _ _ _ 23 [(2, .int 16), (0, .ref 1), (1, .int _)] [.ref 2] _ _ _ _
  refine pm_e_sim pm_a9_23 rfl ?_
  show pm_E _ _ _ 24 [(2, .int 16), (0, .ref 1), (1, .int _)] [.ref 1, .ref 2] _ _ _ _
  refine pm_e_rd pm_a9_24 rfl rfl rfl ?_
  show pm_E _ _ _ 27 [(2, .int 16), (0, .ref 1), (1, .int _)] [.int 9, .ref 2] _ _ _ _
  refine pm_e_sim pm_a9_27 rfl ?_
  show pm_E _ _ _ 28 [(2, .int 16), (0, .ref 1), (1, .int _)] [.int _, .int 9, .ref 2] _ _ _ _
  refine pm_e_sim pm_a9_28 rfl ?_
  show pm_E _ _ _ 29 [(2, .int 16), (0, .ref 1), (1, .int _)] [.int 16, .int _, .int 9, .ref 2] _ _ _ _
  refine pm_e_sim pm_a9_29 rfl ?_
  show pm_E _ _ _ 30 [(2, .int 16), (0, .ref 1), (1, .int _)] [.int _, .int 9, .ref 2] _ _ _ _
  refine pm_e_sim pm_a9_30 rfl ?_
  refine pm_e_top (y := 255) (by decide +kernel) ?_
  show pm_E _ _ _ 33 [(2, .int 16), (0, .ref 1), (1, .int _)] [.int 255, .int _, .int 9, .ref 2] _ _ _ _
  refine pm_e_sim pm_a9_33 rfl ?_
  show pm_E _ _ _ 34 [(2, .int 16), (0, .ref 1), (1, .int _)] [.int _, .int 9, .ref 2] _ _ _ _
  refine pm_e_wr pm_a9_34 rfl rfl rfl rfl rfl ?_
  show pm_E _ _ _ 35 [(2, .int 16), (0, .ref 1), (1, .int _)] [] ((pm_H0.set 1 (.inr (4, [.ref 2, .int 9]))).set 2 (.inl (0, 600, .inl _))) _ _ _
  refine pm_e_sim pm_a9_35 rfl ?_
  show pm_E _ _ _ 36 [(2, .int 16), (0, .ref 1), (1, .int _)] [.ref 1] _ _ _ _
  refine pm_e_sim pm_a9_36 rfl ?_
  show pm_E _ _ _ 37 [(2, .int 16), (0, .ref 1), (1, .int _)] [.ref 1, .ref 1] _ _ _ _
  refine pm_e_rd pm_a9_37 rfl rfl rfl ?_
  show pm_E _ _ _ 40 [(2, .int 16), (0, .ref 1), (1, .int _)] [.int 9, .ref 1] _ _ _ _
  refine pm_e_sim pm_a9_40 rfl ?_
  refine pm_e_top (y := 1) (by decide +kernel) ?_
  show pm_E _ _ _ 41 [(2, .int 16), (0, .ref 1), (1, .int _)] [.int 1, .int 9, .ref 1] _ _ _ _
  refine pm_e_sim pm_a9_41 rfl ?_
  refine pm_e_top (y := 10) (by decide +kernel) ?_
  show pm_E _ _ _ 42 [(2, .int 16), (0, .ref 1), (1, .int _)] [.int 10, .ref 1] _ _ _ _
  refine pm_e_wr pm_a9_42 rfl rfl rfl rfl rfl ?_
  show pm_E _ _ _ 45 [(2, .int 16), (0, .ref 1), (1, .int _)] [] ((pm_H0.set 1 (.inr (4, [.ref 2, .int 10]))).set 2 (.inl (0, 600, .inl _))) _ _ _
  refine pm_e_inc (y := 8) pm_a9_45 rfl (by decide +kernel) (by decide +kernel) rfl ?_
  show pm_E _ _ _ 48 [(2, .int 8), (0, .ref 1), (1, .int _)] [] _ _ _ _
  refine pm_e_goto pm_a9_48 rfl ?_
  show pm_E _ _ _ 3 [(2, .int 8), (0, .ref 1), (1, .int _)] [] _ _ _ _
  refine pm_e_sim pm_a9_3 rfl ?_
  show pm_E _ _ _ 4 [(2, .int 8), (0, .ref 1), (1, .int _)] [.int 8] _ _ _ _
  refine pm_e_iff pm_a9_4 rfl (by decide +kernel) ?_
  show pm_E _ _ _ 7 [(2, .int 8), (0, .ref 1), (1, .int _)] [] _ _ _ _
  refine pm_e_sim pm_a9_7 rfl ?_
  show pm_E _ _ _ 8 [(2, .int 8), (0, .ref 1), (1, .int _)] [.ref 1] _ _ _ _
  refine pm_e_rd pm_a9_8 rfl rfl rfl ?_
  show pm_E _ _ _ 11 [(2, .int 8), (0, .ref 1), (1, .int _)] [.int 10] _ _ _ _
  refine pm_e_sim pm_a9_11 rfl ?_
  show pm_E _ _ _ 12 [(2, .int 8), (0, .ref 1), (1, .int _)] [.ref 1, .int 10] _ _ _ _
  refine pm_e_rd pm_a9_12 rfl rfl rfl ?_
  show pm_E _ _ _ 15 [(2, .int 8), (0, .ref 1), (1, .int _)] [.ref 2, .int 10] _ _ _ _
  refine pm_e_rd pm_a9_15 rfl rfl rfl ?_
  dsimp only
  refine pm_e_top (y := 600) (by decide +kernel) ?_
  show pm_E _ _ _ 16 [(2, .int 8), (0, .ref 1), (1, .int _)] [.int 600, .int 10] _ _ _ _
  refine pm_e_icf pm_a9_16 rfl (by decide +kernel) ?_
  show pm_E _ _ _ 19 [(2, .int 8), (0, .ref 1), (1, .int _)] [] _ _ _ _
  refine pm_e_sim pm_a9_19 rfl ?_
  show pm_E _ _ _ 20 [(2, .int 8), (0, .ref 1), (1, .int _)] [.ref 1] _ _ _ _
  refine pm_e_rd pm_a9_20 rfl rfl rfl ?_
  show pm_E _ _ _ 23 [(2, .int 8), (0, .ref 1), (1, .int _)] [.ref 2] _ _ _ _
  refine pm_e_sim pm_a9_23 rfl ?_
  show pm_E _ _ _ 24 [(2, .int 8), (0, .ref 1), (1, .int _)] [.ref 1, .ref 2] _ _ _ _
  refine pm_e_rd pm_a9_24 rfl rfl rfl ?_
  show pm_E _ _ _ 27 [(2, .int 8), (0, .ref 1), (1, .int _)] [.int 10, .ref 2] _ _ _ _
  refine pm_e_sim pm_a9_27 rfl ?_
  show pm_E _ _ _ 28 [(2, .int 8), (0, .ref 1), (1, .int _)] [.int _, .int 10, .ref 2] _ _ _ _
  refine pm_e_sim pm_a9_28 rfl ?_
  show pm_E _ _ _ 29 [(2, .int 8), (0, .ref 1), (1, .int _)] [.int 8, .int _, .int 10, .ref 2] _ _ _ _
  refine pm_e_sim pm_a9_29 rfl ?_
  show pm_E _ _ _ 30 [(2, .int 8), (0, .ref 1), (1, .int _)] [.int _, .int 10, .ref 2] _ _ _ _
  refine pm_e_sim pm_a9_30 rfl ?_
  refine pm_e_top (y := 255) (by decide +kernel) ?_
  show pm_E _ _ _ 33 [(2, .int 8), (0, .ref 1), (1, .int _)] [.int 255, .int _, .int 10, .ref 2] _ _ _ _
  refine pm_e_sim pm_a9_33 rfl ?_
  show pm_E _ _ _ 34 [(2, .int 8), (0, .ref 1), (1, .int _)] [.int _, .int 10, .ref 2] _ _ _ _
  refine pm_e_wr pm_a9_34 rfl rfl rfl rfl rfl ?_
  show pm_E _ _ _ 35 [(2, .int 8), (0, .ref 1), (1, .int _)] [] ((pm_H0.set 1 (.inr (4, [.ref 2, .int 10]))).set 2 (.inl (0, 600, .inl _))) _ _ _
  refine pm_e_sim pm_a9_35 rfl ?_
  show pm_E _ _ _ 36 [(2, .int 8), (0, .ref 1), (1, .int _)] [.ref 1] _ _ _ _
  refine pm_e_sim pm_a9_36 rfl ?_
  show pm_E _ _ _ 37 [(2, .int 8), (0, .ref 1), (1, .int _)] [.ref 1, .ref 1] _ _ _ _
  refine pm_e_rd pm_a9_37 rfl rfl rfl ?_
  show pm_E _ _ _ 40 [(2, .int 8), (0, .ref 1), (1, .int _)] [.int 10, .ref 1] _ _ _ _
  refine pm_e_sim pm_a9_40 rfl ?_
  refine pm_e_top (y := 1) (by decide +kernel) ?_
  show pm_E _ _ _ 41 [(2, .int 8), (0, .ref 1), (1, .int _)] [.int 1, .int 10, .ref 1] _ _ _ _
  refine pm_e_sim pm_a9_41 rfl ?_
  refine pm_e_top (y := 11) (by decide +kernel) ?_
  show pm_E _ _ _ 42 [(2, .int 8), (0, .ref 1), (1, .int _)] [.int 11, .ref 1] _ _ _ _
  refine pm_e_wr pm_a9_42 rfl rfl rfl rfl rfl ?_
  show pm_E _ _ _ 45 [(2, .int 8), (0, .ref 1), (1, .int _)] [] ((pm_H0.set 1 (.inr (4, [.ref 2, .int 11]))).set 2 (.inl (0, 600, .inl _))) _ _ _
  refine pm_e_inc (y := 0) pm_a9_45 rfl (by decide +kernel) (by decide +kernel) rfl ?_
  show pm_E _ _ _ 48 [(2, .int 0), (0, .ref 1), (1, .int _)] [] _ _ _ _
  refine pm_e_goto pm_a9_48 rfl ?_
  show pm_E _ _ _ 3 [(2, .int 0), (0, .ref 1), (1, .int _)] [] _ _ _ _
  refine pm_e_sim pm_a9_3 rfl ?_
  show pm_E _ _ _ 4 [(2, .int 0), (0, .ref 1), (1, .int _)] [.int 0] _ _ _ _
  refine pm_e_iff pm_a9_4 rfl (by decide +kernel) ?_
  show pm_E _ _ _ 7 [(2, .int 0), (0, .ref 1), (1, .int _)] [] _ _ _ _
  refine pm_e_sim pm_a9_7 rfl ?_
  show pm_E _ _ _ 8 [(2, .int 0), (0, .ref 1), (1, .int _)] [.ref 1] _ _ _ _
  refine pm_e_rd pm_a9_8 rfl rfl rfl ?_
  show pm_E _ _ _ 11 [(2, .int 0), (0, .ref 1), (1, .int _)] [.int 11] _ _ _ _
  refine pm_e_sim pm_a9_11 rfl ?_
  show pm_E _ _ _ 12 [(2, .int 0), (0, .ref 1), (1, .int _)] [.ref 1, .int 11] _ _ _ _
  refine pm_e_rd pm_a9_12 rfl rfl rfl ?_
  show pm_E _ _ _ 15 [(2, .int 0), (0, .ref 1), (1, .int _)] [.ref 2, .int 11] _ _ _ _
  refine pm_e_rd pm_a9_15 rfl rfl rfl ?_
  dsimp only
  refine pm_e_top (y := 600) (by decide +kernel) ?_
  show pm_E _ _ _ 16 [(2, .int 0), (0, .ref 1), (1, .int _)] [.int 600, .int 11] _ _ _ _
  refine pm_e_icf pm_a9_16 rfl (by decide +kernel) ?_
  show pm_E _ _ _ 19 [(2, .int 0), (0, .ref 1), (1, .int _)] [] _ _ _ _
  refine pm_e_sim pm_a9_19 rfl ?_
  show pm_E _ _ _ 20 [(2, .int 0), (0, .ref 1), (1, .int _)] [.ref 1] _ _ _ _
  refine pm_e_rd pm_a9_20 rfl rfl rfl ?_
  show pm_E _ _ _ 23 [(2, .int 0), (0, .ref 1), (1, .int _)] [.ref 2] _ _ _ _
  refine pm_e_sim pm_a9_23 rfl ?_
  show pm_E _ _ _ 24 [(2, .int 0), (0, .ref 1), (1, .int _)] [.ref 1, .ref 2] _ _ _ _
  refine pm_e_rd pm_a9_24 rfl rfl rfl ?_
  show pm_E _ _ _ 27 [(2, .int 0), (0, .ref 1), (1, .int _)] [.int 11, .ref 2] _ _ _ _
  refine pm_e_sim pm_a9_27 rfl ?_
  show pm_E _ _ _ 28 [(2, .int 0), (0, .ref 1), (1, .int _)] [.int _, .int 11, .ref 2] _ _ _ _
  refine pm_e_sim pm_a9_28 rfl ?_
  show pm_E _ _ _ 29 [(2, .int 0), (0, .ref 1), (1, .int _)] [.int 0, .int _, .int 11, .ref 2] _ _ _ _
  refine pm_e_sim pm_a9_29 rfl ?_
  show pm_E _ _ _ 30 [(2, .int 0), (0, .ref 1), (1, .int _)] [.int _, .int 11, .ref 2] _ _ _ _
  refine pm_e_sim pm_a9_30 rfl ?_
  refine pm_e_top (y := 255) (by decide +kernel) ?_
  show pm_E _ _ _ 33 [(2, .int 0), (0, .ref 1), (1, .int _)] [.int 255, .int _, .int 11, .ref 2] _ _ _ _
  refine pm_e_sim pm_a9_33 rfl ?_
  show pm_E _ _ _ 34 [(2, .int 0), (0, .ref 1), (1, .int _)] [.int _, .int 11, .ref 2] _ _ _ _
  refine pm_e_wr pm_a9_34 rfl rfl rfl rfl rfl ?_
  show pm_E _ _ _ 35 [(2, .int 0), (0, .ref 1), (1, .int _)] [] ((pm_H0.set 1 (.inr (4, [.ref 2, .int 11]))).set 2 (.inl (0, 600, .inl _))) _ _ _
  refine pm_e_sim pm_a9_35 rfl ?_
  show pm_E _ _ _ 36 [(2, .int 0), (0, .ref 1), (1, .int _)] [.ref 1] _ _ _ _
  refine pm_e_sim pm_a9_36 rfl ?_
  show pm_E _ _ _ 37 [(2, .int 0), (0, .ref 1), (1, .int _)] [.ref 1, .ref 1] _ _ _ _
  refine pm_e_rd pm_a9_37 rfl rfl rfl ?_
  show pm_E _ _ _ 40 [(2, .int 0), (0, .ref 1), (1, .int _)] [.int 11, .ref 1] _ _ _ _
  refine pm_e_sim pm_a9_40 rfl ?_
  refine pm_e_top (y := 1) (by decide +kernel) ?_
  show pm_E _ _ _ 41 [(2, .int 0), (0, .ref 1), (1, .int _)] [.int 1, .int 11, .ref 1] _ _ _ _
  refine pm_e_sim pm_a9_41 rfl ?_
  refine pm_e_top (y := 12) (by decide +kernel) ?_
  show pm_E _ _ _ 42 [(2, .int 0), (0, .ref 1), (1, .int _)] [.int 12, .ref 1] _ _ _ _
  refine pm_e_wr pm_a9_42 rfl rfl rfl rfl rfl ?_
  show pm_E _ _ _ 45 [(2, .int 0), (0, .ref 1), (1, .int _)] [] ((pm_H0.set 1 (.inr (4, [.ref 2, .int 12]))).set 2 (.inl (0, 600, .inl _))) _ _ _
  refine pm_e_inc (y := (-8)) pm_a9_45 rfl (by decide +kernel) (by decide +kernel) rfl ?_
  show pm_E _ _ _ 48 [(2, .int (-8)), (0, .ref 1), (1, .int _)] [] _ _ _ _
  refine pm_e_goto pm_a9_48 rfl ?_
  show pm_E _ _ _ 3 [(2, .int (-8)), (0, .ref 1), (1, .int _)] [] _ _ _ _
  refine pm_e_sim pm_a9_3 rfl ?_
  show pm_E _ _ _ 4 [(2, .int (-8)), (0, .ref 1), (1, .int _)] [.int (-8)] _ _ _ _
  refine pm_e_ift pm_a9_4 rfl (by decide +kernel) ?_
  show pm_E _ _ _ 51 [(2, .int (-8)), (0, .ref 1), (1, .int _)] [] _ _ _ _
  refine pm_e_ret pm_a9_51 rfl rfl rfl rfl rfl rfl rfl rfl ?_
  show pm_E _ _ _ 43 [(0, .ref 0), (1, .int _), (2, .int _), (3, .int _), (4, .int _), (5, .int _)] [] _ _ _ _
  refine pm_e_sim pm_a8_43 rfl ?_
  show pm_E _ _ _ 44 [(0, .ref 0), (1, .int _), (2, .int _), (3, .int _), (4, .int _), (5, .int _)] [.ref 0] _ _ _ _
  refine pm_e_rd pm_a8_44 rfl rfl rfl ?_
  show pm_E _ _ _ 47 [(0, .ref 0), (1, .int _), (2, .int _), (3, .int _), (4, .int _), (5, .int _)] [.ref 1] _ _ _ _
  refine pm_e_sim pm_a8_47 rfl ?_
  show pm_E _ _ _ 49 [(0, .ref 0), (1, .int _), (2, .int _), (3, .int _), (4, .int _), (5, .int _)] [.int _, .ref 1] _ _ _ _
  refine pm_e_call (T2 := pm_mm9) pm_a8_49 rfl rfl rfl rfl rfl rfl rfl rfl rfl ?_
  show pm_E _ _ _ 0 [(0, .ref 1), (1, .int _)] [] _ _ _ _
  refine pm_e_sim pm_a9_0 rfl ?_
  refine pm_e_top (y := 24) (by decide +kernel) ?_
  show pm_E _ _ _ 2 [(0, .ref 1), (1, .int _)] [.int 24] _ _ _ _
  refine pm_e_sim pm_a9_2 rfl ?_
  show pm_E _ _ _ 3 [(2, .int 24), (0, .ref 1), (1, .int _)] [] _ _ _ _
  refine pm_e_sim pm_a9_3 rfl ?_
  show pm_E _ _ _ 4 [(2, .int 24), (0, .ref 1), (1, .int _)] [.int 24] _ _ _ _
  refine pm_e_iff pm_a9_4 rfl (by decide +kernel) ?_
  show pm_E _ _ _ 7 [(2, .int 24), (0, .ref 1), (1, .int _)] [] _ _ _ _
  refine pm_e_sim pm_a9_7 rfl ?_
  show pm_E _ _ _ 8 [(2, .int 24), (0, .ref 1), (1, .int _)] [.ref 1] _ _ _ _
  refine pm_e_rd pm_a9_8 rfl rfl rfl ?_
  show pm_E _ _ _ 11 [(2, .int 24), (0, .ref 1), (1, .int _)] [.int 12] _ _ _ _
  refine pm_e_sim pm_a9_11 rfl ?_
  show pm_E _ _ _ 12 [(2, .int 24), (0, .ref 1), (1, .int _)] [.ref 1, .int 12] _ _ _ _
  refine pm_e_rd pm_a9_12 rfl rfl rfl ?_
  show pm_E _ _ _ 15 [(2, .int 24), (0, .ref 1), (1, .int _)] [.ref 2, .int 12] _ _ _ _
  refine pm_e_rd pm_a9_15 rfl rfl rfl ?_
  dsimp only
  refine pm_e_top (y := 600) (by decide +kernel) ?_
  show pm_E _ _ _ 16 [(2, .int 24), (0, .ref 1), (1, .int _)] [.int 600, .int 12] _ _ _ _
  refine pm_e_icf pm_a9_16 rfl (by decide +kernel) ?_
  show pm_E _ _ _ 19 [(2, .int 24), (0, .ref 1), (1, .int _)] [] _ _ _ _
  refine pm_e_sim pm_a9_19 rfl ?_
  show pm_E _ _ _ 20 [(2, .int 24), (0, .ref 1), (1, .int _)] [.ref 1] _ _ _ _
  refine pm_e_rd pm_a9_20 rfl rfl rfl ?_
  show pm_E _ _ _ 23 [(2, .int 24), (0, .ref 1), (1, .int _)] [.ref 2] _ _ _ _
  refine pm_e_sim pm_a9_23 rfl ?_
  show pm_E _ _ _ 24 [(2, .int 24), (0, .ref 1), (1, .int _)] [.ref 1, .ref 2] _ _ _ _
  refine pm_e_rd pm_a9_24 rfl rfl rfl ?_
  show pm_E _ _ _ 27 [(2, .int 24), (0, .ref 1), (1, .int _)] [.int 12, .ref 2] _ _ _ _
  refine pm_e_sim pm_a9_27 rfl ?_
  show pm_E _ _ _ 28 [(2, .int 24), (0, .ref 1), (1, .int _)] [.int _, .int 12, .ref 2] _ _ _ _
  refine pm_e_sim pm_a9_28 rfl ?_
  show pm_E _ _ _ 29 [(2, .int 24), (0, .ref 1), (1, .int _)] [.int 24, .int _, .int 12, .ref 2] _ _ _ _
  refine pm_e_sim pm_a9_29 rfl ?_
  show pm_E _ _ _ 30 [(2, .int 24), (0, .ref 1), (1, .int _)] [.int _, .int 12, .ref 2] _ _ _ _
  refine pm_e_sim pm_a9_30 rfl ?_
  refine pm_e_top (y := 255) (by decide +kernel) ?_
  show pm_E _ _ _ 33 [(2, .int 24), (0, .ref 1), (1, .int _)] [.int 255, .int _, .int 12, .ref 2] _ _ _ _
  refine pm_e_sim pm_a9_33 rfl ?_
  show pm_E _ _ _ 34 [(2, .int 24), (0, .ref 1), (1, .int _)] [.int _, .int 12, .ref 2] _ _ _ _
  refine pm_e_wr pm_a9_34 rfl rfl rfl rfl rfl ?_
  show pm_E _ _ _ 35 [(2, .int 24), (0, .ref 1), (1, .int _)] [] ((pm_H0.set 1 (.inr (4, [.ref 2, .int 12]))).set 2 (.inl (0, 600, .inl _))) _ _ _
  refine pm_e_sim pm_a9_35 rfl ?_
  show pm_E _ _ _ 36 [(2, .int 24), (0, .ref 1), (1, .int _)] [.ref 1] _ _ _ _
  refine pm_e_sim pm_a9_36 rfl ?_
  show pm_E _ _ _ 37 [(2, .int 24), (0, .ref 1), (1, .int _)] [.ref 1, .ref 1] _ _ _ _
  refine pm_e_rd pm_a9_37 rfl rfl rfl ?_
  show pm_E _ _ _ 40 [(2, .int 24), (0, .ref 1), (1, .int _)] [.int 12, .ref 1] _ _ _ _
  refine pm_e_sim pm_a9_40 rfl ?_
  refine pm_e_top (y := 1) (by decide +kernel) ?_
  show pm_E _ _ _ 41 [(2, .int 24), (0, .ref 1), (1, .int _)] [.int 1, .int 12, .ref 1] _ _ _ _
  refine pm_e_sim pm_a9_41 rfl ?_
  refine pm_e_top (y := 13) (by decide +kernel) ?_
  show pm_E _ _ _ 42 [(2, .int 24), (0, .ref 1), (1, .int _)] [.int 13, .ref 1] _ _ _ _
  refine pm_e_wr pm_a9_42 rfl rfl rfl rfl rfl ?_
  show pm_E _ _ _ 45 [(2, .int 24), (0, .ref 1), (1, .int _)] [] ((pm_H0.set 1 (.inr (4, [.ref 2, .int 13]))).set 2 (.inl (0, 600, .inl _))) _ _ _
  refine pm_e_inc (y := 16) pm_a9_45 rfl (by decide +kernel) (by decide +kernel) rfl ?_
  show pm_E _ _ _ 48 [(2, .int 16), (0, .ref 1), (1, .int _)] [] _ _ _ _
  refine pm_e_goto pm_a9_48 rfl ?_
  show pm_E _ _ _ 3 [(2, .int 16), (0, .ref 1), (1, .int _)] [] _ _ _ _
  refine pm_e_sim pm_a9_3 rfl ?_
  show pm_E _ _ _ 4 [(2, .int 16), (0, .ref 1), (1, .int _)] [.int 16] _ _ _ _
  refine pm_e_iff pm_a9_4 rfl (by decide +kernel) ?_
  show pm_E _ _ _ 7 [(2, .int 16), (0, .ref 1), (1, .int _)] [] _ _ _ _
  refine pm_e_sim pm_a9_7 rfl ?_
  show pm_E _ _ _ 8 [(2, .int 16), (0, .ref 1), (1, .int _)] [.ref 1] _ _ _ _
  refine pm_e_rd pm_a9_8 rfl rfl rfl ?_
  show pm_E _ _ _ 11 [(2, .int 16), (0, .ref 1), (1, .int _)] [.int 13] _ _ _ _
  refine pm_e_sim pm_a9_11 rfl ?_
  show pm_E _ _ _ 12 [(2, .int 16), (0, .ref 1), (1, .int _)] [.ref 1, .int 13] _ _ _ _
  refine pm_e_rd pm_a9_12 rfl rfl rfl ?_
  show pm_E _ _ _ 15 [(2, .int 16), (0, .ref 1), (1, .int _)] [.ref 2, .int 13] _ _ _ _
  refine pm_e_rd pm_a9_15 rfl rfl rfl ?_
  dsimp only
  refine pm_e_top (y := 600) (by decide +kernel) ?_
  show pm_E _ _ _ 16 [(2, .int 16), (0, .ref 1), (1, .int _)] [.int 600, .int 13] _ _ _ _
  refine pm_e_icf pm_a9_16 rfl (by decide +kernel) ?_
  show pm_E _ _ _ 19 [(2, .int 16), (0, .ref 1), (1, .int _)] [] _ _ _ _
  refine pm_e_sim pm_a9_19 rfl ?_
  show pm_E _ _ _ 20 [(2, .int 16), (0, .ref 1), (1, .int _)] [.ref 1] _ _ _ _
  refine pm_e_rd pm_a9_20 rfl rfl rfl ?_
  show pm_E _ _ _ 23 [(2, .int 16), (0, .ref 1), (1, .int _)] [.ref 2] _ _ _ _
  refine pm_e_sim pm_a9_23 rfl ?_
  show pm_E _ _ _ 24 [(2, .int 16), (0, .ref 1), (1, .int _)] [.ref 1, .ref 2] _ _ _ _
  refine pm_e_rd pm_a9_24 rfl rfl rfl ?_
  show pm_E _ _ _ 27 [(2, .int 16), (0, .ref 1), (1, .int _)] [.int 13, .ref 2] _ _ _ _
  refine pm_e_sim pm_a9_27 rfl ?_
  show pm_E _ _ _ 28 [(2, .int 16), (0, .ref 1), (1, .int _)] [.int _, .int 13, .ref 2] _ _ _ _
  refine pm_e_sim pm_a9_28 rfl ?_
  show pm_E _ _ _ 29 [(2, .int 16), (0, .ref 1), (1, .int _)] [.int 16, .int _, .int 13, .ref 2] _ _ _ _
  refine pm_e_sim pm_a9_29 rfl ?_
  show pm_E _ _ _ 30 [(2, .int 16), (0, .ref 1), (1, .int _)] [.int _, .int 13, .ref 2] _ _ _ _
  refine pm_e_sim pm_a9_30 rfl ?_
  refine pm_e_top (y := 255) (by decide +kernel) ?_
  show pm_E _ _ _ 33 [(2, .int 16), (0, .ref 1), (1, .int _)] [.int 255, .int _, .int 13, .ref 2] _ _ _ _
  refine pm_e_sim pm_a9_33 rfl ?_
  show pm_E _ _ _ 34 [(2, .int 16), (0, .ref 1), (1, .int _)] [.int _, .int 13, .ref 2] _ _ _ _
  refine pm_e_wr pm_a9_34 rfl rfl rfl rfl rfl ?_
  show pm_E _ _ _ 35 [(2, .int 16), (0, .ref 1), (1, .int _)] [] ((pm_H0.set 1 (.inr (4, [.ref 2, .int 13]))).set 2 (.inl (0, 600, .inl _))) _ _ _
  refine pm_e_sim pm_a9_35 rfl ?_
  show pm_E _ _ _ 36 [(2, .int 16), (0, .ref 1), (1, .int _)] [.ref 1] _ _ _ _
  refine pm_e_sim pm_a9_36 rfl ?_
  show pm_E _ _ _ 37 [(2, .int 16), (0, .ref 1), (1, .int _)] [.ref 1, .ref 1] _ _ _ _
  refine pm_e_rd pm_a9_37 rfl rfl rfl ?_
  show pm_E _ _ _ 40 [(2, .int 16), (0, .ref 1), (1, .int _)] [.int 13, .ref 1] _ _ _ _
  refine pm_e_sim pm_a9_40 rfl ?_
  refine pm_e_top (y := 1) (by decide +kernel) ?_
  show pm_E _ _ _ 41 [(2, .int 16), (0, .ref 1), (1, .int _)] [.int 1, .int 13, .ref 1] _ _ _ _
  refine pm_e_sim pm_a9_41 rfl ?_
  refine pm_e_top (y := 14) (by decide +kernel) ?_
  show pm_E _ _ _ 42 [(2, .int 16), (0, .ref 1), (1, .int _)] [.int 14, .ref 1] _ _ _ _
  refine pm_e_wr pm_a9_42 rfl rfl rfl rfl rfl ?_
  show pm_E _ _ _ 45 [(2, .int 16), (0, .ref 1), (1, .int _)] [] ((pm_H0.set 1 (.inr (4, [.ref 2, .int 14]))).set 2 (.inl (0, 600, .inl _))) _ _ _
  refine pm_e_inc (y := 8) pm_a9_45 rfl (by decide +kernel) (by decide +kernel) rfl ?_
  show pm_E _ _ _ 48 [(2, .int 8), (0, .ref 1), (1, .int _)] [] _ _ _ _
  refine pm_e_goto pm_a9_48 rfl ?_
  show pm_E _ _ _ 3 [(2, .int 8), (0, .ref 1), (1, .int _)] [] _ _ _ _
  refine pm_e_sim pm_a9_3 rfl ?_
  show pm_E _ _ _ 4 [(2, .int 8), (0, .ref 1), (1, .int _)] [.int 8] _ _ _ _
  refine pm_e_iff pm_a9_4 rfl (by decide +kernel) ?_
  show pm_E _ _ _ 7 [(2, .int 8), (0, .ref 1), (1, .int _)] [] _ _ _ _
  refine pm_e_sim pm_a9_7 rfl ?_
  show pm_E _ _ _ 8 [(2, .int 8), (0, .ref 1), (1, .int _)] [.ref 1] _ _ _ _
  refine pm_e_rd pm_a9_8 rfl rfl rfl ?_
  show pm_E _ _ _ 11 [(2, .int 8), (0, .ref 1), (1, .int _)] [.int 14] _ _ _ _
  refine pm_e_sim pm_a9_11 rfl ?_
  show pm_E _ _ _ 12 [(2, .int 8), (0, .ref 1), (1, .int _)] [.ref 1, .int 14] _ _ _ _
  refine pm_e_rd pm_a9_12 rfl rfl rfl ?_
  show pm_E _ _ _ 15 [(2, .int 8), (0, .ref 1), (1, .int _)] [.ref 2, .int 14] _ _ _ _
  refine pm_e_rd pm_a9_15 rfl rfl rfl ?_
  dsimp only
  refine pm_e_top (y := 600) (by decide +kernel) ?_
  show pm_E _ _ _ 16 [(2, .int 8), (0, .ref 1), (1, .int _)] [.int 600, .int 14] _ _ _ _
  refine pm_e_icf pm_a9_16 rfl (by decide +kernel) ?_
  show pm_E _ _ _ 19 [(2, .int 8), (0, .ref 1), (1, .int _)] [] _ _ _ _
  refine pm_e_sim pm_a9_19 rfl ?_
  show pm_E _ _ _ 20 [(2, .int 8), (0, .ref 1), (1, .int _)] [.ref 1] _ _ _ _
  refine pm_e_rd pm_a9_20 rfl rfl rfl ?_
  show pm_E _ _ _ 23 [(2, .int 8), (0, .ref 1), (1, .int _)] [.ref 2] _ _ _ _
  refine pm_e_sim pm_a9_23 rfl ?_
  show pm_E _ _ _ 24 [(2, .int 8), (0, .ref 1), (1, .int _)] [.ref 1, .ref 2] _ _ _ _
  refine pm_e_rd pm_a9_24 rfl rfl rfl ?_
  show pm_E _ _ _ 27 [(2, .int 8), (0, .ref 1), (1, .int _)] [.int 14, .ref 2] _ _ _ _
  refine pm_e_sim pm_a9_27 rfl ?_
  show pm_E _ _ _ 28 [(2, .int 8), (0, .ref 1), (1, .int _)] [.int _, .int 14, .ref 2] _ _ _ _
  refine pm_e_sim pm_a9_28 rfl ?_
  show pm_E _ _ _ 29 [(2, .int 8), (0, .ref 1), (1, .int _)] [.int 8, .int _, .int 14, .ref 2] _ _ _ _
  refine pm_e_sim pm_a9_29 rfl ?_
  show pm_E _ _ _ 30 [(2, .int 8), (0, .ref 1), (1, .int _)] [.int _, .int 14, .ref 2] _ _ _ _
  refine pm_e_sim pm_a9_30 rfl ?_
  refine pm_e_top (y := 255) (by decide +kernel) ?_
  show pm_E _ _ _ 33 [(2, .int 8), (0, .ref 1), (1, .int _)] [.int 255, .int _, .int 14, .ref 2] _ _ _ _
  refine pm_e_sim pm_a9_33 rfl ?_
  show pm_E _ _ _ 34 [(2, .int 8), (0, .ref 1), (1, .int _)] [.int _, .int 14, .ref 2] _ _ _ _
  refine pm_e_wr pm_a9_34 rfl rfl rfl rfl rfl ?_
  show pm_E _ _ _ 35 [(2, .int 8), (0, .ref 1), (1, .int _)] [] ((pm_H0.set 1 (.inr (4, [.ref 2, .int 14]))).set 2 (.inl (0, 600, .inl _))) _ _ _
  refine pm_e_sim pm_a9_35 rfl ?_
  show pm_E _ _ _ 36 [(2, .int 8), (0, .ref 1), (1, .int _)] [.ref 1] _ _ _ _
  refine pm_e_sim pm_a9_36 rfl ?_
  show pm_E _ _ _ 37 [(2, .int 8), (0, .ref 1), (1, .int _)] [.ref 1, .ref 1] _ _ _ _
  refine pm_e_rd pm_a9_37 rfl rfl rfl ?_
  show pm_E _ _ _ 40 [(2, .int 8), (0, .ref 1), (1, .int _)] [.int 14, .ref 1] _ _ _ _
  refine pm_e_sim pm_a9_40 rfl ?_
  refine pm_e_top (y := 1) (by decide +kernel) ?_
  show pm_E _ _ _ 41 [(2, .int 8), (0, .ref 1), (1, .int _)] [.int 1, .int 14, .ref 1] _ _ _ _
  refine pm_e_sim pm_a9_41 rfl ?_
  refine pm_e_top (y := 15) (by decide +kernel) ?_
  show pm_E _ _ _ 42 [(2, .int 8), (0, .ref 1), (1, .int _)] [.int 15, .ref 1] _ _ _ _
  refine pm_e_wr pm_a9_42 rfl rfl rfl rfl rfl ?_
  show pm_E _ _ _ 45 [(2, .int 8), (0, .ref 1), (1, .int _)] [] ((pm_H0.set 1 (.inr (4, [.ref 2, .int 15]))).set 2 (.inl (0, 600, .inl _))) _ _ _
  refine pm_e_inc (y := 0) pm_a9_45 rfl (by decide +kernel) (by decide +kernel) rfl ?_
  show pm_E _ _ _ 48 [(2, .int 0), (0, .ref 1), (1, .int _)] [] _ _ _ _
  refine pm_e_goto pm_a9_48 rfl ?_
  show pm_E _ _ _ 3 [(2, .int 0), (0, .ref 1), (1, .int _)] [] _ _ _ _
  refine pm_e_sim pm_a9_3 rfl ?_
  show pm_E _ _ _ 4 [(2, .int 0), (0, .ref 1), (1, .int _)] [.int 0] _ _ _ _
  refine pm_e_iff pm_a9_4 rfl (by decide +kernel) ?_
  show pm_E _ _ _ 7 [(2, .int 0), (0, .ref 1), (1, .int _)] [] _ _ _ _
  refine pm_e_sim pm_a9_7 rfl ?_
  show pm_E _ _ _ 8 [(2, .int 0), (0, .ref 1), (1, .int _)] [.ref 1] _ _ _ _
  refine pm_e_rd pm_a9_8 rfl rfl rfl ?_
  show pm_E _ _ _ 11 [(2, .int 0), (0, .ref 1), (1, .int _)] [.int 15] _ _ _ _
  refine pm_e_sim pm_a9_11 rfl ?_
  show pm_E _ _ _ 12 [(2, .int 0), (0, .ref 1), (1, .int _)] [.ref 1, .int 15] _ _ _ _
  refine pm_e_rd pm_a9_12 rfl rfl rfl ?_
  show pm_E _ _ _ 15 [(2, .int 0), (0, .ref 1), (1, .int _)] [.ref 2, .int 15] _ _ _ _
  refine pm_e_rd pm_a9_15 rfl rfl rfl ?_
  dsimp only
  refine pm_e_top (y := 600) (by decide +kernel) ?_
  show pm_E _ _ _ 16 [(2, .int 0), (0, .ref 1), (1, .int _)] [.int 600, .int 15] _ _ _ _
  refine pm_e_icf pm_a9_16 rfl (by decide +kernel) ?_
  show pm_E _ _ _ 19 [(2, .int 0), (0, .ref 1), (1, .int _)] [] _ _ _ _
  refine pm_e_sim pm_a9_19 rfl ?_
  show pm_E _ _ _ 20 [(2, .int 0), (0, .ref 1), (1, .int _)] [.ref 1] _ _ _ _
  refine pm_e_rd pm_a9_20 rfl rfl rfl ?_
  show pm_E _ _ _ 23 [(2, .int 0), (0, .ref 1), (1, .int _)] [.ref 2] _ _ _ _
  refine pm_e_sim pm_a9_23 rfl ?_
  show pm_E _ _ _ 24 [(2, .int 0), (0, .ref 1), (1, .int _)] [.ref 1, .ref 2] _ _ _ _
  refine pm_e_rd pm_a9_24 rfl rfl rfl ?_
  show pm_E _ _ _ 27 [(2, .int 0), (0, .ref 1), (1, .int _)] [.int 15, .ref 2] _ _ _ _
  refine pm_e_sim pm_a9_27 rfl ?_
  show pm_E _ _ _ 28 [(2, .int 0), (0, .ref 1), (1, .int _)] [.int _, .int 15, .ref 2] _ _ _ _
  refine pm_e_sim pm_a9_28 rfl ?_
  show pm_E _ _ _ 29 [(2, .int 0), (0, .ref 1), (1, .int _)] [.int 0, .int _, .int 15, .ref 2] _ _ _ _
  refine pm_e_sim pm_a9_29 rfl ?_
  show pm_E _ _ _ 30 [(2, .int 0), (0, .ref 1), (1, .int _)] [.int _, .int 15, .ref 2] _ _ _ _
  refine pm_e_sim pm_a9_30 rfl ?_
  refine pm_e_top (y := 255) (by decide +kernel) ?_
  show pm_E _ _ _ 33 [(2, .int 0), (0, .ref 1), (1, .int _)] [.int 255, .int _, .int 15, .ref 2] _ _ _ _
  refine pm_e_sim pm_a9_33 rfl ?_
  show pm_E _ _ _ 34 [(2, .int 0), (0, .ref 1), (1, .int _)] [.int _, .int 15, .ref 2] _ _ _ _
  refine pm_e_wr pm_a9_34 rfl rfl rfl rfl rfl ?_
  show pm_E _ _ _ 35 [(2, .int 0), (0, .ref 1), (1, .int _)] [] ((pm_H0.set 1 (.inr (4, [.ref 2, .int 15]))).set 2 (.inl (0, 600, .inl _))) _ _ _
  refine pm_e_sim pm_a9_35 rfl ?_
  show pm_E _ _ _ 36 [(2, .int 0), (0, .ref 1), (1, .int _)] [.ref 1] _ _ _ _
  refine pm_e_sim pm_a9_36 rfl ?_
  show pm_E _ _ _ 37 [(2, .int 0), (0, .ref 1), (1, .int _)] [.ref 1, .ref 1] _ _ _ _
  refine pm_e_rd pm_a9_37 rfl rfl rfl ?_
  show pm_E _ _ _ 40 [(2, .int 0), (0, .ref 1), (1, .int _)] [.int 15, .ref 1] _ _ _ _
  refine pm_e_sim pm_a9_40 rfl ?_
  refine pm_e_top (y := 1) (by decide +kernel) ?_
  show pm_E _ _ _ 41 [(2, .int 0), (0, .ref 1), (1, .int _)] [.int 1, .int 15, .ref 1] _ _ _ _
  refine pm_e_sim pm_a9_41 rfl ?_
  refine pm_e_top (y := 16) (by decide +kernel) ?_
  show pm_E _ _ _ 42 [(2, .int 0), (0, .ref 1), (1, .int _)] [.int 16, .ref 1] _ _ _ _
  refine pm_e_wr pm_a9_42 rfl rfl rfl rfl rfl ?_
  show pm_E _ _ _ 45 [(2, .int 0), (0, .ref 1), (1, .int _)] [] ((pm_H0.set 1 (.inr (4, [.ref 2, .int 16]))).set 2 (.inl (0, 600, .inl _))) _ _ _
  refine pm_e_inc (y := (-8)) pm_a9_45 rfl (by decide +kernel) (by decide +kernel) rfl ?_
  show pm_E _ _ _ 48 [(2, .int (-8)), (0, .ref 1), (1, .int _)] [] _ _ _ _
  refine pm_e_goto pm_a9_48 rfl ?_
  show pm_E _ _ _ 3 [(2, .int (-8)), (0, .ref 1), (1, .int _)] [] _ _ _ _
  refine pm_e_sim pm_a9_3 rfl ?_
  show pm_E _ _ _ 4 [(2, .int (-8)), (0, .ref 1), (1, .int _)] [.int (-8)] _ _ _ _
  refine pm_e_ift pm_a9_4 rfl (by decide +kernel) ?_
  show pm_E _ _ _ 51 [(2, .int (-8)), (0, .ref 1), (1, .int _)] [] _ _ _ _
  refine pm_e_ret pm_a9_51 rfl rfl rfl rfl rfl rfl rfl rfl ?_
  show pm_E _ _ _ 52 [(0, .ref 0), (1, .int _), (2, .int _), (3, .int _), (4, .int _), (5, .int _)] [] _ _ _ _
  refine pm_e_sim pm_a8_52 rfl ?_
  show pm_E _ _ _ 53 [(0, .ref 0), (1, .int _), (2, .int _), (3, .int _), (4, .int _), (5, .int _)] [.ref 0] _ _ _ _
  refine pm_e_rd pm_a8_53 rfl rfl rfl ?_
  show pm_E _ _ _ 56 [(0, .ref 0), (1, .int _), (2, .int _), (3, .int _), (4, .int _), (5, .int _)] [.ref 1] _ _ _ _
  refine pm_e_sim pm_a8_56 rfl ?_
  show pm_E _ _ _ 58 [(0, .ref 0), (1, .int _), (2, .int _), (3, .int _), (4, .int _), (5, .int _)] [.int _, .ref 1] _ _ _ _
  refine pm_e_call (T2 := pm_mm9) pm_a8_58 rfl rfl rfl rfl rfl rfl rfl rfl rfl ?_
  show pm_E _ _ _ 0 [(0, .ref 1), (1, .int _)] [] _ _ _ _
  refine pm_e_sim pm_a9_0 rfl ?_
  refine pm_e_top (y := 24) (by decide +kernel) ?_
  show pm_E _ _ _ 2 [(0, .ref 1), (1, .int _)] [.int 24] _ _ _ _
  refine pm_e_sim pm_a9_2 rfl ?_
  show pm_E _ _ _ 3 [(2, .int 24), (0, .ref 1), (1, .int _)] [] _ _ _ _
  refine pm_e_sim pm_a9_3 rfl ?_
  show pm_E _ _ _ 4 [(2, .int 24), (0, .ref 1), (1, .int _)] [.int 24] _ _ _ _
  refine pm_e_iff pm_a9_4 rfl (by decide +kernel) ?_
  show pm_E _ _ _ 7 [(2, .int 24), (0, .ref 1), (1, .int _)] [] _ _ _ _
  refine pm_e_sim pm_a9_7 rfl ?_
  show pm_E _ _ _ 8 [(2, .int 24), (0, .ref 1), (1, .int _)] [.ref 1] _ _ _ _
  refine pm_e_rd pm_a9_8 rfl rfl rfl ?_
  show pm_E _ _ _ 11 [(2, .int 24), (0, .ref 1), (1, .int _)] [.int 16] _ _ _ _
  refine pm_e_sim pm_a9_11 rfl ?_
  show pm_E _ _ _ 12 [(2, .int 24), (0, .ref 1), (1, .int _)] [.ref 1, .int 16] _ _ _ _
  refine pm_e_rd pm_a9_12 rfl rfl rfl ?_
  show pm_E _ _ _ 15 [(2, .int 24), (0, .ref 1), (1, .int _)] [.ref 2, .int 16] _ _ _ _
  refine pm_e_rd pm_a9_15 rfl rfl rfl ?_
  dsimp only
  refine pm_e_top (y := 600) (by decide +kernel) ?_
  show pm_E _ _ _ 16 [(2, .int 24), (0, .ref 1), (1, .int _)] [.int 600, .int 16] _ _ _ _
  refine pm_e_icf pm_a9_16 rfl (by decide +kernel) ?_
  show pm_E _ _ _ 19 [(2, .int 24), (0, .ref 1), (1, .int _)] [] _ _ _ _
  refine pm_e_sim pm_a9_19 rfl ?_
  show pm_E _ _ _ 20 [(2, .int 24), (0, .ref 1), (1, .int _)] [.ref 1] _ _ _ _
  refine pm_e_rd pm_a9_20 rfl rfl rfl ?_
  show pm_E _ _ _ 23 [(2, .int 24), (0, .ref 1), (1, .int _)] [.ref 2] _ _ _ _
  refine pm_e_sim pm_a9_23 rfl ?_
  show pm_E _ _ _ 24 [(2, .int 24), (0, .ref 1), (1, .int _)] [.ref 1, .ref 2] _ _ _ _
  refine pm_e_rd pm_a9_24 rfl rfl rfl ?_
  show pm_E _ _ _ 27 [(2, .int 24), (0, .ref 1), (1, .int _)] [.int 16, .ref 2] _ _ _ _
  refine pm_e_sim pm_a9_27 rfl ?_
  show pm_E _ _ _ 28 [(2, .int 24), (0, .ref 1), (1, .int _)] [.int _, .int 16, .ref 2] _ _ _ _
  refine pm_e_sim pm_a9_28 rfl ?_
  show pm_E _ _ _ 29 [(2, .int 24), (0, .ref 1), (1, .int _)] [.int 24, .int _, .int 16, .ref 2] _ _ _ _
  refine pm_e_sim pm_a9_29 rfl ?_
  show pm_E _ _ _ 30 [(2, .int 24), (0, .ref 1), (1, .int _)] [.int _, .int 16, .ref 2] _ _ _ _
  refine pm_e_sim pm_a9_30 rfl ?_
  refine pm_e_top (y := 255) (by decide +kernel) ?_
  show pm_E _ _ _ 33 [(2, .int 24), (0, .ref 1), (1, .int _)] [.int 255, .int _, .int 16, .ref 2] _ _ _ _
  refine pm_e_sim pm_a9_33 rfl ?_
  show pm_E _ _ _ 34 [(2, .int 24), (0, .ref 1), (1, .int _)] [.int _, .int 16, .ref 2] _ _ _ _
  refine pm_e_wr pm_a9_34 rfl rfl rfl rfl rfl ?_
  show pm_E _ _ _ 35 [(2, .int 24), (0, .ref 1), (1, .int _)] [] ((pm_H0.set 1 (.inr (4, [.ref 2, .int 16]))).set 2 (.inl (0, 600, .inl _))) _ _ _
  refine pm_e_sim pm_a9_35 rfl ?_
  show pm_E _ _ _ 36 [(2, .int 24), (0, .ref 1), (1, .int _)] [.ref 1] _ _ _ _
  refine pm_e_sim pm_a9_36 rfl ?_
  show pm_E _ _ _ 37 [(2, .int 24), (0, .ref 1), (1, .int _)] [.ref 1, .ref 1] _ _ _ _
  refine pm_e_rd pm_a9_37 rfl rfl rfl ?_
  show pm_E _ _ _ 40 [(2, .int 24), (0, .ref 1), (1, .int _)] [.int 16, .ref 1] _ _ _ _
  refine pm_e_sim pm_a9_40 rfl ?_
  refine pm_e_top (y := 1) (by decide +kernel) ?_
  show pm_E _ _ _ 41 [(2, .int 24), (0, .ref 1), (1, .int _)] [.int 1, .int 16, .ref 1] _ _ _ _
  refine pm_e_sim pm_a9_41 rfl ?_
  refine pm_e_top (y := 17) (by decide +kernel) ?_
  show pm_E _ _ _ 42 [(2, .int 24), (0, .ref 1), (1, .int _)] [.int 17, .ref 1] _ _ _ _
  refine pm_e_wr pm_a9_42 rfl rfl rfl rfl rfl ?_
  show pm_E _ _ _ 45 [(2, .int 24), (0, .ref 1), (1, .int _)] [] ((pm_H0.set 1 (.inr (4, [.ref 2, .int 17]))).set 2 (.inl (0, 600, .inl _))) _ _ _
  refine pm_e_inc (y := 16) pm_a9_45 rfl (by decide +kernel) (by decide +kernel) rfl ?_
  show pm_E _ _ _ 48 [(2, .int 16), (0, .ref 1), (1, .int _)] [] _ _ _ _
  refine pm_e_goto pm_a9_48 rfl ?_
  show pm_E _ _ _ 3 [(2, .int 16), (0, .ref 1), (1, .int _)] [] _ _ _ _
  refine pm_e_sim pm_a9_3 rfl ?_
  show pm_E _ _ _ 4 [(2, .int 16), (0, .ref 1), (1, .int _)] [.int 16] _ _ _ _
  refine pm_e_iff pm_a9_4 rfl (by decide +kernel) ?_
  show pm_E _ _ _ 7 [(2, .int 16), (0, .ref 1), (1, .int _)] [] _ _ _ _
  refine pm_e_sim pm_a9_7 rfl ?_
  show pm_E _ _ _ 8 [(2, .int 16), (0, .ref 1), (1, .int _)] [.ref 1] _ _ _ _
  refine pm_e_rd pm_a9_8 rfl rfl rfl ?_
  show pm_E _ _ _ 11 [(2, .int 16), (0, .ref 1), (1, .int _)] [.int 17] _ _ _ _
  refine pm_e_sim pm_a9_11 rfl ?_
  show pm_E _ _ _ 12 [(2, .int 16), (0, .ref 1), (1, .int _)] [.ref 1, .int 17] _ _ _ _
  refine pm_e_rd pm_a9_12 rfl rfl rfl ?_
  show pm_E _ _ _ 15 [(2, .int 16), (0, .ref 1), (1, .int _)] [.ref 2, .int 17] _ _ _ _
  refine pm_e_rd pm_a9_15 rfl rfl rfl ?_
  dsimp only
  refine pm_e_top (y := 600) (by decide +kernel) ?_
  show pm_E _ _ _ 16 [(2, .int 16), (0, .ref 1), (1, .int _)] [.int 600, .int 17] _ _ _ _
  refine pm_e_icf pm_a9_16 rfl (by decide +kernel) ?_
  show pm_E _ _ _ 19 [(2, .int 16), (0, .ref 1), (1, .int _)] [] _ _ _ _
  refine pm_e_sim pm_a9_19 rfl ?_
  show pm_E _ _ _ 20 [(2, .int 16), (0, .ref 1), (1, .int _)] [.ref 1] _ _ _ _
  refine pm_e_rd pm_a9_20 rfl rfl rfl ?_
  show pm_E _ _ _ 23 [(2, .int 16), (0, .ref 1), (1, .int _)] [.ref 2] _ _ _ _
  refine pm_e_sim pm_a9_23 rfl ?_
  show pm_E _ _ _ 24 [(2, .int 16), (0, .ref 1), (1, .int _)] [.ref 1, .ref 2] _ _ _ _
  refine pm_e_rd pm_a9_24 rfl rfl rfl ?_
  show pm_E _ _ _ 27 [(2, .int 16), (0, .ref 1), (1, .int _)] [.int 17, .ref 2] _ _ _ _
  refine pm_e_sim pm_a9_27 rfl ?_
  show pm_E _ _ _ 28 [(2, .int 16), (0, .ref 1), (1, .int _)] [.int _, .int 17, .ref 2] _ _ _ _
  refine pm_e_sim pm_a9_28 rfl ?_
  show pm_E _ _ _ 29 [(2, .int 16), (0, .ref 1), (1, .int _)] [.int 16, .int _, .int 17, .ref 2] _ _ _ _
  refine pm_e_sim pm_a9_29 rfl ?_
  show pm_E _ _ _ 30 [(2, .int 16), (0, .ref 1), (1, .int _)] [.int _, .int 17, .ref 2] _ _ _ _
  refine pm_e_sim pm_a9_30 rfl ?_
  refine pm_e_top (y := 255) (by decide +kernel) ?_
  show pm_E _ _ _ 33 [(2, .int 16), (0, .ref 1), (1, .int _)] [.int 255, .int _, .int 17, .ref 2] _ _ _ _
  refine pm_e_sim pm_a9_33 rfl ?_
  show pm_E _ _ _ 34 [(2, .int 16), (0, .ref 1), (1, .int _)] [.int _, .int 17, .ref 2] _ _ _ _
  refine pm_e_wr pm_a9_34 rfl rfl rfl rfl rfl ?_
  show pm_E _ _ _ 35 [(2, .int 16), (0, .ref 1), (1, .int _)] [] ((pm_H0.set 1 (.inr (4, [.ref 2, .int 17]))).set 2 (.inl (0, 600, .inl _))) _ _ _
  refine pm_e_sim pm_a9_35 rfl ?_
  show pm_E _ _ _ 36 [(2, .int 16), (0, .ref 1), (1, .int _)] [.ref 1] _ _ _ _
  refine pm_e_sim pm_a9_36 rfl ?_
  show pm_E _ _ _ 37 [(2, .int 16), (0, .ref 1), (1, .int _)] [.ref 1, .ref 1] _ _ _ _
  refine pm_e_rd pm_a9_37 rfl rfl rfl ?_
  show pm_E _ _ _ 40 [(2, .int 16), (0, .ref 1), (1, .int _)] [.int 17, .ref 1] _ _ _ _
  refine pm_e_sim pm_a9_40 rfl ?_
  refine pm_e_top (y := 1) (by decide +kernel) ?_
  show pm_E _ _ _ 41 [(2, .int 16), (0, .ref 1), (1, .int _)] [.int 1, .int 17, .ref 1] _ _ _ _
  refine pm_e_sim pm_a9_41 rfl ?_
  refine pm_e_top (y := 18) (by decide +kernel) ?_
  show pm_E _ _ _ 42 [(2, .int 16), (0, .ref 1), (1, .int _)] [.int 18, .ref 1] _ _ _ _
  refine pm_e_wr pm_a9_42 rfl rfl rfl rfl rfl ?_
  show pm_E _ _ _ 45 [(2, .int 16), (0, .ref 1), (1, .int _)] [] ((pm_H0.set 1 (.inr (4, [.ref 2, .int 18]))).set 2 (.inl (0, 600, .inl _))) _ _ _
  refine pm_e_inc (y := 8) pm_a9_45 rfl (by decide +kernel) (by decide +kernel) rfl ?_
  show pm_E _ _ _ 48 [(2, .int 8), (0, .ref 1), (1, .int _)] [] _ _ _ _
  refine pm_e_goto pm_a9_48 rfl ?_
  show pm_E _ _ _ 3 [(2, .int 8), (0, .ref 1), (1, .int _)] [] _ _ _ _
  refine pm_e_sim pm_a9_3 rfl ?_
  show pm_E _ _ _ 4 [(2, .int 8), (0, .ref 1), (1, .int _)] [.int 8] _ _ _ _
  refine pm_e_iff pm_a9_4 rfl (by decide +kernel) ?_
  show pm_E _ _ _ 7 [(2, .int 8), (0, .ref 1), (1, .int _)] [] _ _ _ _
  refine pm_e_sim pm_a9_7 rfl ?_
  show pm_E _ _ _ 8 [(2, .int 8), (0, .ref 1), (1, .int _)] [.ref 1] _ _ _ _
  refine pm_e_rd pm_a9_8 rfl rfl rfl ?_
  show pm_E _ _ _ 11 [(2, .int 8), (0, .ref 1), (1, .int _)] [.int 18] _ _ _ _
  refine pm_e_sim pm_a9_11 rfl ?_
  show pm_E _ _ _ 12 [(2, .int 8), (0, .ref 1), (1, .int _)] [.ref 1, .int 18] _ _ _ _
  refine pm_e_rd pm_a9_12 rfl rfl rfl ?_
  show pm_E _ _ _ 15 [(2, .int 8), (0, .ref 1), (1, .int _)] [.ref 2, .int 18] _ _ _ _
  refine pm_e_rd pm_a9_15 rfl rfl rfl ?_
  dsimp only
  refine pm_e_top (y := 600) (by decide +kernel) ?_
  show pm_E _ _ _ 16 [(2, .int 8), (0, .ref 1), (1, .int _)] [.int 600, .int 18] _ _ _ _
  refine pm_e_icf pm_a9_16 rfl (by decide +kernel) ?_
  show pm_E _ _ _ 19 [(2, .int 8), (0, .ref 1), (1, .int _)] [] _ _ _ _
  refine pm_e_sim pm_a9_19 rfl ?_
  show pm_E _ _ _ 20 [(2, .int 8), (0, .ref 1), (1, .int _)] [.ref 1] _ _ _ _
  refine pm_e_rd pm_a9_20 rfl rfl rfl ?_
  show pm_E _ _ _ 23 [(2, .int 8), (0, .ref 1), (1, .int _)] [.ref 2] _ _ _ _
  refine pm_e_sim pm_a9_23 rfl ?_
  show pm_E _ _ _ 24 [(2, .int 8), (0, .ref 1), (1, .int _)] [.ref 1, .ref 2] _ _ _ _
  refine pm_e_rd pm_a9_24 rfl rfl rfl ?_
  show pm_E _ _ _ 27 [(2, .int 8), (0, .ref 1), (1, .int _)] [.int 18, .ref 2] _ _ _ _
  refine pm_e_sim pm_a9_27 rfl ?_
  show pm_E _ _ _ 28 [(2, .int 8), (0, .ref 1), (1, .int _)] [.int _, .int 18, .ref 2] _ _ _ _
  refine pm_e_sim pm_a9_28 rfl ?_
  show pm_E _ _ _ 29 [(2, .int 8), (0, .ref 1), (1, .int _)] [.int 8, .int _, .int 18, .ref 2] _ _ _ _
  refine pm_e_sim pm_a9_29 rfl ?_
  show pm_E _ _ _ 30 [(2, .int 8), (0, .ref 1), (1, .int _)] [.int _, .int 18, .ref 2] _ _ _ _
  refine pm_e_sim pm_a9_30 rfl ?_
  refine pm_e_top (y := 255) (by decide +kernel) ?_
  show pm_E _ _ _ 33 [(2, .int 8), (0, .ref 1), (1, .int _)] [.int 255, .int _, .int 18, .ref 2] _ _ _ _
  refine pm_e_sim pm_a9_33 rfl ?_
  show pm_E _ _ _ 34 [(2, .int 8), (0, .ref 1), (1, .int _)] [.int _, .int 18, .ref 2] _ _ _ _
  refine pm_e_wr pm_a9_34 rfl rfl rfl rfl rfl ?_
  show pm_E _ _ _ 35 [(2, .int 8), (0, .ref 1), (1, .int _)] [] ((pm_H0.set 1 (.inr (4, [.ref 2, .int 18]))).set 2 (.inl (0, 600, .inl _))) _ _ _
  refine pm_e_sim pm_a9_35 rfl ?_
  show pm_E _ _ _ 36 [(2, .int 8), (0, .ref 1), (1, .int _)] [.ref 1] _ _ _ _
  refine pm_e_sim pm_a9_36 rfl ?_
  show pm_E _ _ _ 37 [(2, .int 8), (0, .ref 1), (1, .int _)] [.ref 1, .ref 1] _ _ _ _
  refine pm_e_rd pm_a9_37 rfl rfl rfl ?_
  show pm_E _ _ _ 40 [(2, .int 8), (0, .ref 1), (1, .int _)] [.int 18, .ref 1] _ _ _ _
  refine pm_e_sim pm_a9_40 rfl ?_
  refine pm_e_top (y := 1) (by decide +kernel) ?_
  show pm_E _ _ _ 41 [(2, .int 8), (0, .ref 1), (1, .int _)] [.int 1, .int 18, .ref 1] _ _ _ _
  refine pm_e_sim pm_a9_41 rfl ?_
  refine pm_e_top (y := 19) (by decide +kernel) ?_
  show pm_E _ _ _ 42 [(2, .int 8), (0, .ref 1), (1, .int _)] [.int 19, .ref 1] _ _ _ _
  refine pm_e_wr pm_a9_42 rfl rfl rfl rfl rfl ?_
  show pm_E _ _ _ 45 [(2, .int 8), (0, .ref 1), (1, .int _)] [] ((pm_H0.set 1 (.inr (4, [.ref 2, .int 19]))).set 2 (.inl (0, 600, .inl _))) _ _ _
  refine pm_e_inc (y := 0) pm_a9_45 rfl (by decide +kernel) (by decide +kernel) rfl ?_
  show pm_E _ _ _ 48 [(2, .int 0), (0, .ref 1), (1, .int _)] [] _ _ _ _
  refine pm_e_goto pm_a9_48 rfl ?_
  show pm_E _ _ _ 3 [(2, .int 0), (0, .ref 1), (1, .int _)] [] _ _ _ _
  refine pm_e_sim pm_a9_3 rfl ?_
  show pm_E _ _ _ 4 [(2, .int 0), (0, .ref 1), (1, .int _)] [.int 0] _ _ _ _
  refine pm_e_iff pm_a9_4 rfl (by decide +kernel) ?_
  show pm_E _ _ _ 7 [(2, .int 0), (0, .ref 1), (1, .int _)] [] _ _ _ _
  refine pm_e_sim pm_a9_7 rfl ?_
  show pm_E _ _ _ 8 [(2, .int 0), (0, .ref 1), (1, .int _)] [.ref 1] _ _ _ _
  refine pm_e_rd pm_a9_8 rfl rfl rfl ?_
  show pm_E _ _ _ 11 [(2, .int 0), (0, .ref 1), (1, .int _)] [.int 19] _ _ _ _
  refine pm_e_sim pm_a9_11 rfl ?_
  show pm_E _ _ _ 12 [(2, .int 0), (0, .ref 1), (1, .int _)] [.ref 1, .int 19] _ _ _ _
  refine pm_e_rd pm_a9_12 rfl rfl rfl ?_
  show pm_E _ _ _ 15 [(2, .int 0), (0, .ref 1), (1, .int _)] [.ref 2, .int 19] _ _ _ _
  refine pm_e_rd pm_a9_15 rfl rfl rfl ?_
  dsimp only
  refine pm_e_top (y := 600) (by decide +kernel) ?_
  show pm_E _ _ _ 16 [(2, .int 0), (0, .ref 1), (1, .int _)] [.int 600, .int 19] _ _ _ _
  refine pm_e_icf pm_a9_16 rfl (by decide +kernel) ?_
  show pm_E _ _ _ 19 [(2, .int 0), (0, .ref 1), (1, .int _)] [] _ _ _ _
  refine pm_e_sim pm_a9_19 rfl ?_
  show pm_E _ _ _ 20 [(2, .int 0), (0, .ref 1), (1, .int _)] [.ref 1] _ _ _ _
  refine pm_e_rd pm_a9_20 rfl rfl rfl ?_
  show pm_E _ _ _ 23 [(2, .int 0), (0, .ref 1), (1, .int _)] [.ref 2] _ _ _ _
  refine pm_e_sim pm_a9_23 rfl ?_
  show pm_E _ _ _ 24 [(2, .int 0), (0, .ref 1), (1, .int _)] [.ref 1, .ref 2] _ _ _ _
  refine pm_e_rd pm_a9_24 rfl rfl rfl ?_
  show pm_E _ _ _ 27 [(2, .int 0), (0, .ref 1), (1, .int _)] [.int 19, .ref 2] _ _ _ _
  refine pm_e_sim pm_a9_27 rfl ?_
  show pm_E _ _ _ 28 [(2, .int 0), (0, .ref 1), (1, .int _)] [.int _, .int 19, .ref 2] _ _ _ _
  refine pm_e_sim pm_a9_28 rfl ?_
  show pm_E _ _ _ 29 [(2, .int 0), (0, .ref 1), (1, .int _)] [.int 0, .int _, .int 19, .ref 2] _ _ _ _
  refine pm_e_sim pm_a9_29 rfl ?_
  show pm_E _ _ _ 30 [(2, .int 0), (0, .ref 1), (1, .int _)] [.int _, .int 19, .ref 2] _ _ _ _
  refine pm_e_sim pm_a9_30 rfl ?_
  refine pm_e_top (y := 255) (by decide +kernel) ?_
  show pm_E _ _ _ 33 [(2, .int 0), (0, .ref 1), (1, .int _)] [.int 255, .int _, .int 19, .ref 2] _ _ _ _
  refine pm_e_sim pm_a9_33 rfl ?_
  show pm_E _ _ _ 34 [(2, .int 0), (0, .ref 1), (1, .int _)] [.int _, .int 19, .ref 2] _ _ _ _
  refine pm_e_wr pm_a9_34 rfl rfl rfl rfl rfl ?_
  show pm_E _ _ _ 35 [(2, .int 0), (0, .ref 1), (1, .int _)] [] ((pm_H0.set 1 (.inr (4, [.ref 2, .int 19]))).set 2 (.inl (0, 600, .inl _))) _ _ _
  refine pm_e_sim pm_a9_35 rfl ?_
  show pm_E _ _ _ 36 [(2, .int 0), (0, .ref 1), (1, .int _)] [.ref 1] _ _ _ _
  refine pm_e_sim pm_a9_36 rfl ?_
  show pm_E _ _ _ 37 [(2, .int 0), (0, .ref 1), (1, .int _)] [.ref 1, .ref 1] _ _ _ _
  refine pm_e_rd pm_a9_37 rfl rfl rfl ?_
  show pm_E _ _ _ 40 [(2, .int 0), (0, .ref 1), (1, .int _)] [.int 19, .ref 1] _ _ _ _
  refine pm_e_sim pm_a9_40 rfl ?_
  refine pm_e_top (y := 1) (by decide +kernel) ?_
  show pm_E _ _ _ 41 [(2, .int 0), (0, .ref 1), (1, .int _)] [.int 1, .int 19, .ref 1] _ _ _ _
  refine pm_e_sim pm_a9_41 rfl ?_
  refine pm_e_top (y := 20) (by decide +kernel) ?_
  show pm_E _ _ _ 42 [(2, .int 0), (0, .ref 1), (1, .int _)] [.int 20, .ref 1] _ _ _ _
  refine pm_e_wr pm_a9_42 rfl rfl rfl rfl rfl ?_
  show pm_E _ _ _ 45 [(2, .int 0), (0, .ref 1), (1, .int _)] [] ((pm_H0.set 1 (.inr (4, [.ref 2, .int 20]))).set 2 (.inl (0, 600, .inl _))) _ _ _
  refine pm_e_inc (y := (-8)) pm_a9_45 rfl (by decide +kernel) (by decide +kernel) rfl ?_
  show pm_E _ _ _ 48 [(2, .int (-8)), (0, .ref 1), (1, .int _)] [] _ _ _ _
  refine pm_e_goto pm_a9_48 rfl ?_
  show pm_E _ _ _ 3 [(2, .int (-8)), (0, .ref 1), (1, .int _)] [] _ _ _ _
  refine pm_e_sim pm_a9_3 rfl ?_
  show pm_E _ _ _ 4 [(2, .int (-8)), (0, .ref 1), (1, .int _)] [.int (-8)] _ _ _ _
  refine pm_e_ift pm_a9_4 rfl (by decide +kernel) ?_
  show pm_E _ _ _ 51 [(2, .int (-8)), (0, .ref 1), (1, .int _)] [] _ _ _ _
  refine pm_e_ret pm_a9_51 rfl rfl rfl rfl rfl rfl rfl rfl ?_
  show pm_E _ _ _ 61 [(0, .ref 0), (1, .int _), (2, .int _), (3, .int _), (4, .int _), (5, .int _)] [] _ _ _ _
  refine pm_e_sim pm_a8_61 rfl ?_
  show pm_E _ _ _ 62 [(0, .ref 0), (1, .int _), (2, .int _), (3, .int _), (4, .int _), (5, .int _)] [.ref 0] _ _ _ _
  refine pm_e_rd pm_a8_62 rfl rfl rfl ?_
  show pm_E _ _ _ 65 [(0, .ref 0), (1, .int _), (2, .int _), (3, .int _), (4, .int _), (5, .int _)] [.ref 1] _ _ _ _
  refine pm_e_rd pm_a8_65 rfl rfl rfl ?_
  show pm_E _ _ _ 68 [(0, .ref 0), (1, .int _), (2, .int _), (3, .int _), (4, .int _), (5, .int _)] [.int 20] _ _ _ _
  refine pm_e_ret pm_a8_68 rfl rfl rfl rfl rfl rfl rfl rfl ?_
  show pm_E _ _ _ 169 [(3, .int 0), (2, .ref 18), (1, .ref 0), (0, .retAddr 0)] [.int 20] _ _ _ _
  refine pm_e_sim pm_a0_169 rfl ?_
  show pm_E _ _ _ 170 [(3, .int 0), (2, .ref 18), (1, .ref 0), (0, .retAddr 0)] [.ref 18, .int 20] _ _ _ _
  refine pm_e_sim pm_a0_170 rfl ?_
  show pm_E _ _ _ 171 [(3, .int 0), (2, .ref 18), (1, .ref 0), (0, .retAddr 0)] [.retAddr 0, .ref 18, .int 20] _ _ _ _
  refine pm_e_sim pm_a0_171 rfl ?_
  show pm_E _ _ _ 172 [(3, .int 0), (2, .ref 18), (1, .ref 0), (0, .retAddr 0)] [.int 0, .retAddr 0, .ref 18, .int 20] _ _ _ _
  refine pm_e_sim pm_a0_172 rfl ?_
  refine pm_e_top (y := 1) (by decide +kernel) ?_
  show pm_E _ _ _ 173 [(3, .int 0), (2, .ref 18), (1, .ref 0), (0, .retAddr 0)] [.int 1, .int 0, .retAddr 0, .ref 18, .int 20] _ _ _ _
  refine pm_e_sim pm_a0_173 rfl ?_
  refine pm_e_top (y := 1) (by decide +kernel) ?_
  show pm_E _ _ _ 174 [(3, .int 0), (2, .ref 18), (1, .ref 0), (0, .retAddr 0)] [.int 1, .retAddr 0, .ref 18, .int 20] _ _ _ _
  refine pm_e_sld (j := 1) pm_a0_174 (by decide +kernel) ?_
  show pm_E _ _ _ 175 [(3, .int 0), (2, .ref 18), (1, .ref 0), (0, .retAddr 0)] [.int _, .ref 18, .int 20] _ _ _ _
  refine pm_e_sim pm_a0_175 rfl ?_
  show pm_E _ _ _ 176 [(3, .int 0), (2, .ref 18), (1, .ref 0), (0, .retAddr 0)] [.retAddr 0, .int _, .ref 18, .int 20] _ _ _ _
  refine pm_e_sim pm_a0_176 rfl ?_
  show pm_E _ _ _ 177 [(3, .int 0), (2, .ref 18), (1, .ref 0), (0, .retAddr 0)] [.int 0, .retAddr 0, .int _, .ref 18, .int 20] _ _ _ _
  refine pm_e_sim pm_a0_177 rfl ?_
  refine pm_e_top (y := 2) (by decide +kernel) ?_
  show pm_E _ _ _ 178 [(3, .int 0), (2, .ref 18), (1, .ref 0), (0, .retAddr 0)] [.int 2, .int 0, .retAddr 0, .int _, .ref 18, .int 20] _ _ _ _
  refine pm_e_sim pm_a0_178 rfl ?_
  refine pm_e_top (y := 2) (by decide +kernel) ?_
  show pm_E _ _ _ 179 [(3, .int 0), (2, .ref 18), (1, .ref 0), (0, .retAddr 0)] [.int 2, .retAddr 0, .int _, .ref 18, .int 20] _ _ _ _
  refine pm_e_sld (j := 2) pm_a0_179 (by decide +kernel) ?_
  show pm_E _ _ _ 180 [(3, .int 0), (2, .ref 18), (1, .ref 0), (0, .retAddr 0)] [.int _, .int _, .ref 18, .int 20] _ _ _ _
  refine pm_e_sim pm_a0_180 rfl ?_
  show pm_E _ _ _ 181 [(3, .int 0), (2, .ref 18), (1, .ref 0), (0, .retAddr 0)] [.retAddr 0, .int _, .int _, .ref 18, .int 20] _ _ _ _
  refine pm_e_sim pm_a0_181 rfl ?_
  show pm_E _ _ _ 182 [(3, .int 0), (2, .ref 18), (1, .ref 0), (0, .retAddr 0)] [.int 0, .retAddr 0, .int _, .int _, .ref 18, .int 20] _ _ _ _
  refine pm_e_sim pm_a0_182 rfl ?_
  refine pm_e_top (y := 3) (by decide +kernel) ?_
  show pm_E _ _ _ 183 [(3, .int 0), (2, .ref 18), (1, .ref 0), (0, .retAddr 0)] [.int 3, .int 0, .retAddr 0, .int _, .int _, .ref 18, .int 20] _ _ _ _
  refine pm_e_sim pm_a0_183 rfl ?_
  refine pm_e_top (y := 3) (by decide +kernel) ?_
  show pm_E _ _ _ 184 [(3, .int 0), (2, .ref 18), (1, .ref 0), (0, .retAddr 0)] [.int 3, .retAddr 0, .int _, .int _, .ref 18, .int 20] _ _ _ _
  refine pm_e_sld (j := 3) pm_a0_184 (by decide +kernel) ?_
  show pm_E _ _ _ 185 [(3, .int 0), (2, .ref 18), (1, .ref 0), (0, .retAddr 0)] [.int _, .int _, .int _, .ref 18, .int 20] _ _ _ _
  refine pm_e_sim pm_a0_185 rfl ?_
  show pm_E _ _ _ 186 [(3, .int 0), (2, .ref 18), (1, .ref 0), (0, .retAddr 0)] [.retAddr 0, .int _, .int _, .int _, .ref 18, .int 20] _ _ _ _
  refine pm_e_sim pm_a0_186 rfl ?_
  show pm_E _ _ _ 187 [(3, .int 0), (2, .ref 18), (1, .ref 0), (0, .retAddr 0)] [.int 0, .retAddr 0, .int _, .int _, .int _, .ref 18, .int 20] _ _ _ _
  refine pm_e_sim pm_a0_187 rfl ?_
  refine pm_e_top (y := 4) (by decide +kernel) ?_
  show pm_E _ _ _ 188 [(3, .int 0), (2, .ref 18), (1, .ref 0), (0, .retAddr 0)] [.int 4, .int 0, .retAddr 0, .int _, .int _, .int _, .ref 18, .int 20] _ _ _ _
  refine pm_e_sim pm_a0_188 rfl ?_
  refine pm_e_top (y := 4) (by decide +kernel) ?_
  show pm_E _ _ _ 189 [(3, .int 0), (2, .ref 18), (1, .ref 0), (0, .retAddr 0)] [.int 4, .retAddr 0, .int _, .int _, .int _, .ref 18, .int 20] _ _ _ _
  refine pm_e_sld (j := 4) pm_a0_189 (by decide +kernel) ?_
  show pm_E _ _ _ 190 [(3, .int 0), (2, .ref 18), (1, .ref 0), (0, .retAddr 0)] [.int _, .int _, .int _, .int _, .ref 18, .int 20] _ _ _ _
  refine pm_e_sim pm_a0_190 rfl ?_
  show pm_E _ _ _ 191 [(3, .int 0), (2, .ref 18), (1, .ref 0), (0, .retAddr 0)] [.retAddr 0, .int _, .int _, .int _, .int _, .ref 18, .int 20] _ _ _ _
  refine pm_e_sim pm_a0_191 rfl ?_
  show pm_E _ _ _ 192 [(3, .int 0), (2, .ref 18), (1, .ref 0), (0, .retAddr 0)] [.int 0, .retAddr 0, .int _, .int _, .int _, .int _, .ref 18, .int 20] _ _ _ _
  refine pm_e_sim pm_a0_192 rfl ?_
  refine pm_e_top (y := 5) (by decide +kernel) ?_
  show pm_E _ _ _ 193 [(3, .int 0), (2, .ref 18), (1, .ref 0), (0, .retAddr 0)] [.int 5, .int 0, .retAddr 0, .int _, .int _, .int _, .int _, .ref 18, .int 20] _ _ _ _
  refine pm_e_sim pm_a0_193 rfl ?_
  refine pm_e_top (y := 5) (by decide +kernel) ?_
  show pm_E _ _ _ 194 [(3, .int 0), (2, .ref 18), (1, .ref 0), (0, .retAddr 0)] [.int 5, .retAddr 0, .int _, .int _, .int _, .int _, .ref 18, .int 20] _ _ _ _
  refine pm_e_sld (j := 5) pm_a0_194 (by decide +kernel) ?_
  show pm_E _ _ _ 195 [(3, .int 0), (2, .ref 18), (1, .ref 0), (0, .retAddr 0)] [.int _, .int _, .int _, .int _, .int _, .ref 18, .int 20] _ _ _ _
  refine pm_e_call (T2 := pm_mm47) pm_a0_195 rfl rfl rfl rfl rfl rfl rfl rfl rfl ?_
  show pm_E _ _ _ 0 [(0, .ref 18), (1, .int _), (2, .int _), (3, .int _), (4, .int _), (5, .int _)] [] _ _ _ _
  refine pm_e_sim pm_a47_0 rfl ?_
  show pm_E _ _ _ 1 [(0, .ref 18), (1, .int _), (2, .int _), (3, .int _), (4, .int _), (5, .int _)] [.ref 18] _ _ _ _
  refine pm_e_rd pm_a47_1 rfl rfl rfl ?_
  show pm_E _ _ _ 4 [(0, .ref 18), (1, .int _), (2, .int _), (3, .int _), (4, .int _), (5, .int _)] [.int 0] _ _ _ _
  refine pm_e_sim pm_a47_4 rfl ?_
  refine pm_e_top (y := 20) (by decide +kernel) ?_
  show pm_E _ _ _ 6 [(0, .ref 18), (1, .int _), (2, .int _), (3, .int _), (4, .int _), (5, .int _)] [.int 20, .int 0] _ _ _ _
  refine pm_e_sim pm_a47_6 rfl ?_
  refine pm_e_top (y := 20) (by decide +kernel) ?_
  show pm_E _ _ _ 7 [(0, .ref 18), (1, .int _), (2, .int _), (3, .int _), (4, .int _), (5, .int _)] [.int 20] _ _ _ _
  refine pm_e_sim pm_a47_7 rfl ?_
  refine pm_e_top (y := 600) (by decide +kernel) ?_
  show pm_E _ _ _ 10 [(0, .ref 18), (1, .int _), (2, .int _), (3, .int _), (4, .int _), (5, .int _)] [.int 600, .int 20] _ _ _ _
  refine pm_e_ict pm_a47_10 rfl (by decide +kernel) ?_
  show pm_E _ _ _ 16 [(0, .ref 18), (1, .int _), (2, .int _), (3, .int _), (4, .int _), (5, .int _)] [] _ _ _ _
  refine pm_e_sim pm_a47_16 rfl ?_
  show pm_E _ _ _ 17 [(0, .ref 18), (1, .int _), (2, .int _), (3, .int _), (4, .int _), (5, .int _)] [.ref 18] _ _ _ _
  refine pm_e_sim pm_a47_17 rfl ?_
  show pm_E _ _ _ 18 [(0, .ref 18), (1, .int _), (2, .int _), (3, .int _), (4, .int _), (5, .int _)] [.int _, .ref 18] _ _ _ _
  refine pm_e_call (T2 := pm_mm48) pm_a47_18 rfl rfl rfl rfl rfl rfl rfl rfl rfl ?_
  show pm_E _ _ _ 0 [(0, .ref 18), (1, .int _)] [] _ _ _ _
  refine pm_e_sim pm_a48_0 rfl ?_
  refine pm_e_top (y := 24) (by decide +kernel) ?_
  show pm_E _ _ _ 2 [(0, .ref 18), (1, .int _)] [.int 24] _ _ _ _
  refine pm_e_sim pm_a48_2 rfl ?_
  show pm_E _ _ _ 3 [(2, .int 24), (0, .ref 18), (1, .int _)] [] _ _ _ _
  refine pm_e_sim pm_a48_3 rfl ?_
  show pm_E _ _ _ 4 [(2, .int 24), (0, .ref 18), (1, .int _)] [.int 24] _ _ _ _
  refine pm_e_iff pm_a48_4 rfl (by decide +kernel) ?_
  show pm_E _ _ _ 7 [(2, .int 24), (0, .ref 18), (1, .int _)] [] _ _ _ _
  refine pm_e_sim pm_a48_7 rfl ?_
  show pm_E _ _ _ 8 [(2, .int 24), (0, .ref 18), (1, .int _)] [.ref 18] _ _ _ _
  refine pm_e_rd pm_a48_8 rfl rfl rfl ?_
  show pm_E _ _ _ 11 [(2, .int 24), (0, .ref 18), (1, .int _)] [.ref 21] _ _ _ _
  refine pm_e_sim pm_a48_11 rfl ?_
  show pm_E _ _ _ 12 [(2, .int 24), (0, .ref 18), (1, .int _)] [.ref 18, .ref 21] _ _ _ _
  refine pm_e_rd pm_a48_12 rfl rfl rfl ?_
  show pm_E _ _ _ 15 [(2, .int 24), (0, .ref 18), (1, .int _)] [.int 0, .ref 21] _ _ _ _
  refine pm_e_sim pm_a48_15 rfl ?_
  show pm_E _ _ _ 16 [(2, .int 24), (0, .ref 18), (1, .int _)] [.int _, .int 0, .ref 21] _ _ _ _
  refine pm_e_sim pm_a48_16 rfl ?_
  show pm_E _ _ _ 17 [(2, .int 24), (0, .ref 18), (1, .int _)] [.int 24, .int _, .int 0, .ref 21] _ _ _ _
  refine pm_e_sim pm_a48_17 rfl ?_
  show pm_E _ _ _ 18 [(2, .int 24), (0, .ref 18), (1, .int _)] [.int _, .int 0, .ref 21] _ _ _ _
  refine pm_e_sim pm_a48_18 rfl ?_
  refine pm_e_top (y := 255) (by decide +kernel) ?_
  show pm_E _ _ _ 21 [(2, .int 24), (0, .ref 18), (1, .int _)] [.int 255, .int _, .int 0, .ref 21] _ _ _ _
  refine pm_e_sim pm_a48_21 rfl ?_
  show pm_E _ _ _ 22 [(2, .int 24), (0, .ref 18), (1, .int _)] [.int _, .int 0, .ref 21] _ _ _ _
  refine pm_e_wr pm_a48_22 rfl rfl rfl rfl rfl ?_
  show pm_E _ _ _ 23 [(2, .int 24), (0, .ref 18), (1, .int _)] [] (((pm_H0.set 1 (.inr (4, [.ref 2, .int 20]))).set 2 (.inl (0, 600, .inl _))).set 21 (.inl (0, 600, .inl _))) _ _ _
  refine pm_e_sim pm_a48_23 rfl ?_
  show pm_E _ _ _ 24 [(2, .int 24), (0, .ref 18), (1, .int _)] [.ref 18] _ _ _ _
  refine pm_e_sim pm_a48_24 rfl ?_
  show pm_E _ _ _ 25 [(2, .int 24), (0, .ref 18), (1, .int _)] [.ref 18, .ref 18] _ _ _ _
  refine pm_e_rd pm_a48_25 rfl rfl rfl ?_
  show pm_E _ _ _ 28 [(2, .int 24), (0, .ref 18), (1, .int _)] [.int 0, .ref 18] _ _ _ _
  refine pm_e_sim pm_a48_28 rfl ?_
  refine pm_e_top (y := 1) (by decide +kernel) ?_
  show pm_E _ _ _ 29 [(2, .int 24), (0, .ref 18), (1, .int _)] [.int 1, .int 0, .ref 18] _ _ _ _
  refine pm_e_sim pm_a48_29 rfl ?_
  refine pm_e_top (y := 1) (by decide +kernel) ?_
  show pm_E _ _ _ 30 [(2, .int 24), (0, .ref 18), (1, .int _)] [.int 1, .ref 18] _ _ _ _
  refine pm_e_wr pm_a48_30 rfl rfl rfl rfl rfl ?_
  show pm_E _ _ _ 33 [(2, .int 24), (0, .ref 18), (1, .int _)] [] ((((pm_H0.set 1 (.inr (4, [.ref 2, .int 20]))).set 2 (.inl (0, 600, .inl _))).set 18 (.inr (9, pm_f9.set 4 (.int 1)))).set 21 (.inl (0, 600, .inl _))) _ _ _
  refine pm_e_inc (y := 16) pm_a48_33 rfl (by decide +kernel) (by decide +kernel) rfl ?_
  show pm_E _ _ _ 36 [(2, .int 16), (0, .ref 18), (1, .int _)] [] _ _ _ _
  refine pm_e_goto pm_a48_36 rfl ?_
  show pm_E _ _ _ 3 [(2, .int 16), (0, .ref 18), (1, .int _)] [] _ _ _ _
  refine pm_e_sim pm_a48_3 rfl ?_
  show pm_E _ _ _ 4 [(2, .int 16), (0, .ref 18), (1, .int _)] [.int 16] _ _ _ _
  refine pm_e_iff pm_a48_4 rfl (by decide +kernel) ?_
  show pm_E _ _ _ 7 [(2, .int 16), (0, .ref 18), (1, .int _)] [] _ _ _ _
  refine pm_e_sim pm_a48_7 rfl ?_
  show pm_E _ _ _ 8 [(2, .int 16), (0, .ref 18), (1, .int _)] [.ref 18] _ _ _ _
  refine pm_e_rd pm_a48_8 rfl rfl rfl ?_
  show pm_E _ _ _ 11 [(2, .int 16), (0, .ref 18), (1, .int _)] [.ref 21] _ _ _ _
  refine pm_e_sim pm_a48_11 rfl ?_
  show pm_E _ _ _ 12 [(2, .int 16), (0, .ref 18), (1, .int _)] [.ref 18, .ref 21] _ _ _ _
  refine pm_e_rd pm_a48_12 rfl rfl rfl ?_
  show pm_E _ _ _ 15 [(2, .int 16), (0, .ref 18), (1, .int _)] [.int 1, .ref 21] _ _ _ _
  refine pm_e_sim pm_a48_15 rfl ?_
  show pm_E _ _ _ 16 [(2, .int 16), (0, .ref 18), (1, .int _)] [.int _, .int 1, .ref 21] _ _ _ _
  refine pm_e_sim pm_a48_16 rfl ?_
  show pm_E _ _ _ 17 [(2, .int 16), (0, .ref 18), (1, .int _)] [.int 16, .int _, .int 1, .ref 21] _ _ _ _
  refine pm_e_sim pm_a48_17 rfl ?_
  show pm_E _ _ _ 18 [(2, .int 16), (0, .ref 18), (1, .int _)] [.int _, .int 1, .ref 21] _ _ _ _
  refine pm_e_sim pm_a48_18 rfl ?_
  refine pm_e_top (y := 255) (by decide +kernel) ?_
  show pm_E _ _ _ 21 [(2, .int 16), (0, .ref 18), (1, .int _)] [.int 255, .int _, .int 1, .ref 21] _ _ _ _
  refine pm_e_sim pm_a48_21 rfl ?_
  show pm_E _ _ _ 22 [(2, .int 16), (0, .ref 18), (1, .int _)] [.int _, .int 1, .ref 21] _ _ _ _
  refine pm_e_wr pm_a48_22 rfl rfl rfl rfl rfl ?_
  show pm_E _ _ _ 23 [(2, .int 16), (0, .ref 18), (1, .int _)] [] ((((pm_H0.set 1 (.inr (4, [.ref 2, .int 20]))).set 2 (.inl (0, 600, .inl _))).set 18 (.inr (9, pm_f9.set 4 (.int 1)))).set 21 (.inl (0, 600, .inl _))) _ _ _
  refine pm_e_sim pm_a48_23 rfl ?_
  show pm_E _ _ _ 24 [(2, .int 16), (0, .ref 18), (1, .int _)] [.ref 18] _ _ _ _
  refine pm_e_sim pm_a48_24 rfl ?_
  show pm_E _ _ _ 25 [(2, .int 16), (0, .ref 18), (1, .int _)] [.ref 18, .ref 18] _ _ _ _
  refine pm_e_rd pm_a48_25 rfl rfl rfl ?_
  show pm_E _ _ _ 28 [(2, .int 16), (0, .ref 18), (1, .int _)] [.int 1, .ref 18] _ _ _ _
  refine pm_e_sim pm_a48_28 rfl ?_
  refine pm_e_top (y := 1) (by decide +kernel) ?_
  show pm_E _ _ _ 29 [(2, .int 16), (0, .ref 18), (1, .int _)] [.int 1, .int 1, .ref 18] _ _ _ _
  refine pm_e_sim pm_a48_29 rfl ?_
  refine pm_e_top (y := 2) (by decide +kernel) ?_
  show pm_E _ _ _ 30 [(2, .int 16), (0, .ref 18), (1, .int _)] [.int 2, .ref 18] _ _ _ _
  refine pm_e_wr pm_a48_30 rfl rfl rfl rfl rfl ?_
  show pm_E _ _ _ 33 [(2, .int 16), (0, .ref 18), (1, .int _)] [] ((((pm_H0.set 1 (.inr (4, [.ref 2, .int 20]))).set 2 (.inl (0, 600, .inl _))).set 18 (.inr (9, pm_f9.set 4 (.int 2)))).set 21 (.inl (0, 600, .inl _))) _ _ _
  refine pm_e_inc (y := 8) pm_a48_33 rfl (by decide +kernel) (by decide +kernel) rfl ?_
  show pm_E _ _ _ 36 [(2, .int 8), (0, .ref 18), (1, .int _)] [] _ _ _ _
  refine pm_e_goto pm_a48_36 rfl ?_
  show pm_E _ _ _ 3 [(2, .int 8), (0, .ref 18), (1, .int _)] [] _ _ _ _
  refine pm_e_sim pm_a48_3 rfl ?_
  show pm_E _ _ _ 4 [(2, .int 8), (0, .ref 18), (1, .int _)] [.int 8] _ _ _ _
  refine pm_e_iff pm_a48_4 rfl (by decide +kernel) ?_
  show pm_E _ _ _ 7 [(2, .int 8), (0, .ref 18), (1, .int _)] [] _ _ _ _
  refine pm_e_sim pm_a48_7 rfl ?_
  show pm_E _ _ _ 8 [(2, .int 8), (0, .ref 18), (1, .int _)] [.ref 18] _ _ _ _
  refine pm_e_rd pm_a48_8 rfl rfl rfl ?_
  show pm_E _ _ _ 11 [(2, .int 8), (0, .ref 18), (1, .int _)] [.ref 21] _ _ _ _
  refine pm_e_sim pm_a48_11 rfl ?_
  show pm_E _ _ _ 12 [(2, .int 8), (0, .ref 18), (1, .int _)] [.ref 18, .ref 21] _ _ _ _
  refine pm_e_rd pm_a48_12 rfl rfl rfl ?_
  show pm_E _ _ _ 15 [(2, .int 8), (0, .ref 18), (1, .int _)] [.int 2, .ref 21] _ _ _ _
  refine pm_e_sim pm_a48_15 rfl ?_
  show pm_E _ _ _ 16 [(2, .int 8), (0, .ref 18), (1, .int _)] [.int _, .int 2, .ref 21] _ _ _ _
  refine pm_e_sim pm_a48_16 rfl ?_
  show pm_E _ _ _ 17 [(2, .int 8), (0, .ref 18), (1, .int _)] [.int 8, .int _, .int 2, .ref 21] _ _ _ _
  refine pm_e_sim pm_a48_17 rfl ?_
  show pm_E _ _ _ 18 [(2, .int 8), (0, .ref 18), (1, .int _)] [.int _, .int 2, .ref 21] _ _ _ _
  refine pm_e_sim pm_a48_18 rfl ?_
  refine pm_e_top (y := 255) (by decide +kernel) ?_
  show pm_E _ _ _ 21 [(2, .int 8), (0, .ref 18), (1, .int _)] [.int 255, .int _, .int 2, .ref 21] _ _ _ _
  refine pm_e_sim pm_a48_21 rfl ?_
  show pm_E _ _ _ 22 [(2, .int 8), (0, .ref 18), (1, .int _)] [.int _, .int 2, .ref 21] _ _ _ _
  refine pm_e_wr pm_a48_22 rfl rfl rfl rfl rfl ?_
  show pm_E _ _ _ 23 [(2, .int 8), (0, .ref 18), (1, .int _)] [] ((((pm_H0.set 1 (.inr (4, [.ref 2, .int 20]))).set 2 (.inl (0, 600, .inl _))).set 18 (.inr (9, pm_f9.set 4 (.int 2)))).set 21 (.inl (0, 600, .inl _))) _ _ _
  refine pm_e_sim pm_a48_23 rfl ?_
  show pm_E _ _ _ 24 [(2, .int 8), (0, .ref 18), (1, .int _)] [.ref 18] _ _ _ _
  refine pm_e_sim pm_a48_24 rfl ?_
  show pm_E _ _ _ 25 [(2, .int 8), (0, .ref 18), (1, .int _)] [.ref 18, .ref 18] _ _ _ _
  refine pm_e_rd pm_a48_25 rfl rfl rfl ?_
  show pm_E _ _ _ 28 [(2, .int 8), (0, .ref 18), (1, .int _)] [.int 2, .ref 18] _ _ _ _
  refine pm_e_sim pm_a48_28 rfl ?_
  refine pm_e_top (y := 1) (by decide +kernel) ?_
  show pm_E _ _ _ 29 [(2, .int 8), (0, .ref 18), (1, .int _)] [.int 1, .int 2, .ref 18] _ _ _ _
  refine pm_e_sim pm_a48_29 rfl ?_
  refine pm_e_top (y := 3) (by decide +kernel) ?_
  show pm_E _ _ _ 30 [(2, .int 8), (0, .ref 18), (1, .int _)] [.int 3, .ref 18] _ _ _ _
  refine pm_e_wr pm_a48_30 rfl rfl rfl rfl rfl ?_
  show pm_E _ _ _ 33 [(2, .int 8), (0, .ref 18), (1, .int _)] [] ((((pm_H0.set 1 (.inr (4, [.ref 2, .int 20]))).set 2 (.inl (0, 600, .inl _))).set 18 (.inr (9, pm_f9.set 4 (.int 3)))).set 21 (.inl (0, 600, .inl _))) _ _ _
  refine pm_e_inc (y := 0) pm_a48_33 rfl (by decide +kernel) (by decide +kernel) rfl ?_
  show pm_E _ _ _ 36 [(2, .int 0), (0, .ref 18), (1, .int _)] [] _ _ _ _
  refine pm_e_goto pm_a48_36 rfl ?_
  show pm_E _ _ _ 3 [(2, .int 0), (0, .ref 18), (1, .int _)] [] _ _ _ _
  refine pm_e_sim pm_a48_3 rfl ?_
  show pm_E _ _ _ 4 [(2, .int 0), (0, .ref 18), (1, .int _)] [.int 0] _ _ _ _
  refine pm_e_iff pm_a48_4 rfl (by decide +kernel) ?_
  show pm_E _ _ _ 7 [(2, .int 0), (0, .ref 18), (1, .int _)] [] _ _ _ _
  refine pm_e_sim pm_a48_7 rfl ?_
  show pm_E _ _ _ 8 [(2, .int 0), (0, .ref 18), (1, .int _)] [.ref 18] _ _ _ _
  refine pm_e_rd pm_a48_8 rfl rfl rfl ?_
  show pm_E _ _ _ 11 [(2, .int 0), (0, .ref 18), (1, .int _)] [.ref 21] _ _ _ _
  refine pm_e_sim pm_a48_11 rfl ?_
  show pm_E _ _ _ 12 [(2, .int 0), (0, .ref 18), (1, .int _)] [.ref 18, .ref 21] _ _ _ _
  refine pm_e_rd pm_a48_12 rfl rfl rfl ?_
  show pm_E _ _ _ 15 [(2, .int 0), (0, .ref 18), (1, .int _)] [.int 3, .ref 21] _ _ _ _
  refine pm_e_sim pm_a48_15 rfl ?_
  show pm_E _ _ _ 16 [(2, .int 0), (0, .ref 18), (1, .int _)] [.int _, .int 3, .ref 21] _ _ _ _
  refine pm_e_sim pm_a48_16 rfl ?_
  show pm_E _ _ _ 17 [(2, .int 0), (0, .ref 18), (1, .int _)] [.int 0, .int _, .int 3, .ref 21] _ _ _ _
  refine pm_e_sim pm_a48_17 rfl ?_
  show pm_E _ _ _ 18 [(2, .int 0), (0, .ref 18), (1, .int _)] [.int _, .int 3, .ref 21] _ _ _ _
  refine pm_e_sim pm_a48_18 rfl ?_
  refine pm_e_top (y := 255) (by decide +kernel) ?_
  show pm_E _ _ _ 21 [(2, .int 0), (0, .ref 18), (1, .int _)] [.int 255, .int _, .int 3, .ref 21] _ _ _ _
  refine pm_e_sim pm_a48_21 rfl ?_
  show pm_E _ _ _ 22 [(2, .int 0), (0, .ref 18), (1, .int _)] [.int _, .int 3, .ref 21] _ _ _ _
  refine pm_e_wr pm_a48_22 rfl rfl rfl rfl rfl ?_
  show pm_E _ _ _ 23 [(2, .int 0), (0, .ref 18), (1, .int _)] [] ((((pm_H0.set 1 (.inr (4, [.ref 2, .int 20]))).set 2 (.inl (0, 600, .inl _))).set 18 (.inr (9, pm_f9.set 4 (.int 3)))).set 21 (.inl (0, 600, .inl _))) _ _ _
  refine pm_e_sim pm_a48_23 rfl ?_
  show pm_E _ _ _ 24 [(2, .int 0), (0, .ref 18), (1, .int _)] [.ref 18] _ _ _ _
  refine pm_e_sim pm_a48_24 rfl ?_
  show pm_E _ _ _ 25 [(2, .int 0), (0, .ref 18), (1, .int _)] [.ref 18, .ref 18] _ _ _ _
  refine pm_e_rd pm_a48_25 rfl rfl rfl ?_
  show pm_E _ _ _ 28 [(2, .int 0), (0, .ref 18), (1, .int _)] [.int 3, .ref 18] _ _ _ _
  refine pm_e_sim pm_a48_28 rfl ?_
  refine pm_e_top (y := 1) (by decide +kernel) ?_
  show pm_E _ _ _ 29 [(2, .int 0), (0, .ref 18), (1, .int _)] [.int 1, .int 3, .ref 18] _ _ _ _
  refine pm_e_sim pm_a48_29 rfl ?_
  refine pm_e_top (y := 4) (by decide +kernel) ?_
  show pm_E _ _ _ 30 [(2, .int 0), (0, .ref 18), (1, .int _)] [.int 4, .ref 18] _ _ _ _
  refine pm_e_wr pm_a48_30 rfl rfl rfl rfl rfl ?_
  show pm_E _ _ _ 33 [(2, .int 0), (0, .ref 18), (1, .int _)] [] ((((pm_H0.set 1 (.inr (4, [.ref 2, .int 20]))).set 2 (.inl (0, 600, .inl _))).set 18 (.inr (9, pm_f9.set 4 (.int 4)))).set 21 (.inl (0, 600, .inl _))) _ _ _
  refine pm_e_inc (y := (-8)) pm_a48_33 rfl (by decide +kernel) (by decide +kernel) rfl ?_
  show pm_E _ _ _ 36 [(2, .int (-8)), (0, .ref 18), (1, .int _)] [] _ _ _ _
  refine pm_e_goto pm_a48_36 rfl ?_
  show pm_E _ _ _ 3 [(2, .int (-8)), (0, .ref 18), (1, .int _)] [] _ _ _ _
  refine pm_e_sim pm_a48_3 rfl ?_
  show pm_E _ _ _ 4 [(2, .int (-8)), (0, .ref 18), (1, .int _)] [.int (-8)] _ _ _ _
  refine pm_e_ift pm_a48_4 rfl (by decide +kernel) ?_
  show pm_E _ _ _ 39 [(2, .int (-8)), (0, .ref 18), (1, .int _)] [] _ _ _ _
  refine pm_e_ret pm_a48_39 rfl rfl rfl rfl rfl rfl rfl rfl ?_
  show pm_E _ _ _ 21 [(0, .ref 18), (1, .int _), (2, .int _), (3, .int _), (4, .int _), (5, .int _)] [] _ _ _ _
  refine pm_e_sim pm_a47_21 rfl ?_
  show pm_E _ _ _ 22 [(0, .ref 18), (1, .int _), (2, .int _), (3, .int _), (4, .int _), (5, .int _)] [.ref 18] _ _ _ _
  refine pm_e_sim pm_a47_22 rfl ?_
  show pm_E _ _ _ 23 [(0, .ref 18), (1, .int _), (2, .int _), (3, .int _), (4, .int _), (5, .int _)] [.int _, .ref 18] _ _ _ _
  refine pm_e_call (T2 := pm_mm48) pm_a47_23 rfl rfl rfl rfl rfl rfl rfl rfl rfl ?_
  show pm_E _ _ _ 0 [(0, .ref 18), (1, .int _)] [] _ _ _ _
  refine pm_e_sim pm_a48_0 rfl ?_
  refine pm_e_top (y := 24) (by decide +kernel) ?_
  show pm_E _ _ _ 2 [(0, .ref 18), (1, .int _)] [.int 24] _ _ _ _
  refine pm_e_sim pm_a48_2 rfl ?_
  show pm_E _ _ _ 3 [(2, .int 24), (0, .ref 18), (1, .int _)] [] _ _ _ _
  refine pm_e_sim pm_a48_3 rfl ?_
  show pm_E _ _ _ 4 [(2, .int 24), (0, .ref 18), (1, .int _)] [.int 24] _ _ _ _
  refine pm_e_iff pm_a48_4 rfl (by decide +kernel) ?_
  show pm_E _ _ _ 7 [(2, .int 24), (0, .ref 18), (1, .int _)] [] _ _ _ _
  refine pm_e_sim pm_a48_7 rfl ?_
  show pm_E _ _ _ 8 [(2, .int 24), (0, .ref 18), (1, .int _)] [.ref 18] _ _ _ _
  refine pm_e_rd pm_a48_8 rfl rfl rfl ?_
  show pm_E _ _ _ 11 [(2, .int 24), (0, .ref 18), (1, .int _)] [.ref 21] _ _ _ _
  refine pm_e_sim pm_a48_11 rfl ?_
  show pm_E _ _ _ 12 [(2, .int 24), (0, .ref 18), (1, .int _)] [.ref 18, .ref 21] _ _ _ _
  refine pm_e_rd pm_a48_12 rfl rfl rfl ?_
  show pm_E _ _ _ 15 [(2, .int 24), (0, .ref 18), (1, .int _)] [.int 4, .ref 21] _ _ _ _
  refine pm_e_sim pm_a48_15 rfl ?_
  show pm_E _ _ _ 16 [(2, .int 24), (0, .ref 18), (1, .int _)] [.int _, .int 4, .ref 21] _ _ _ _
  refine pm_e_sim pm_a48_16 rfl ?_
  show pm_E _ _ _ 17 [(2, .int 24), (0, .ref 18), (1, .int _)] [.int 24, .int _, .int 4, .ref 21] _ _ _ _
  refine pm_e_sim pm_a48_17 rfl ?_
  show pm_E _ _ _ 18 [(2, .int 24), (0, .ref 18), (1, .int _)] [.int _, .int 4, .ref 21] _ _ _ _
  refine pm_e_sim pm_a48_18 rfl ?_
  refine pm_e_top (y := 255) (by decide +kernel) ?_
  show pm_E _ _ _ 21 [(2, .int 24), (0, .ref 18), (1, .int _)] [.int 255, .int _, .int 4, .ref 21] _ _ _ _
  refine pm_e_sim pm_a48_21 rfl ?_
  show pm_E _ _ _ 22 [(2, .int 24), (0, .ref 18), (1, .int _)] [.int _, .int 4, .ref 21] _ _ _ _
  refine pm_e_wr pm_a48_22 rfl rfl rfl rfl rfl ?_
  show pm_E _ _ _ 23 [(2, .int 24), (0, .ref 18), (1, .int _)] [] ((((pm_H0.set 1 (.inr (4, [.ref 2, .int 20]))).set 2 (.inl (0, 600, .inl _))).set 18 (.inr (9, pm_f9.set 4 (.int 4)))).set 21 (.inl (0, 600, .inl _))) _ _ _
  refine pm_e_sim pm_a48_23 rfl ?_
  show pm_E _ _ _ 24 [(2, .int 24), (0, .ref 18), (1, .int _)] [.ref 18] _ _ _ _
  refine pm_e_sim pm_a48_24 rfl ?_
  show pm_E _ _ _ 25 [(2, .int 24), (0, .ref 18), (1, .int _)] [.ref 18, .ref 18] _ _ _ _
  refine pm_e_rd pm_a48_25 rfl rfl rfl ?_
  show pm_E _ _ _ 28 [(2, .int 24), (0, .ref 18), (1, .int _)] [.int 4, .ref 18] _ _ _ _
  refine pm_e_sim pm_a48_28 rfl ?_
  refine pm_e_top (y := 1) (by decide +kernel) ?_
  show pm_E _ _ _ 29 [(2, .int 24), (0, .ref 18), (1, .int _)] [.int 1, .int 4, .ref 18] _ _ _ _
  refine pm_e_sim pm_a48_29 rfl ?_
  refine pm_e_top (y := 5) (by decide +kernel) ?_
  show pm_E _ _ _ 30 [(2, .int 24), (0, .ref 18), (1, .int _)] [.int 5, .ref 18] _ _ _ _
  refine pm_e_wr pm_a48_30 rfl rfl rfl rfl rfl ?_
  show pm_E _ _ _ 33 [(2, .int 24), (0, .ref 18), (1, .int _)] [] ((((pm_H0.set 1 (.inr (4, [.ref 2, .int 20]))).set 2 (.inl (0, 600, .inl _))).set 18 (.inr (9, pm_f9.set 4 (.int 5)))).set 21 (.inl (0, 600, .inl _))) _ _ _
  refine pm_e_inc (y := 16) pm_a48_33 rfl (by decide +kernel) (by decide +kernel) rfl ?_
  show pm_E _ _ _ 36 [(2, .int 16), (0, .ref 18), (1, .int _)] [] _ _ _ _
  refine pm_e_goto pm_a48_36 rfl ?_
  show pm_E _ _ _ 3 [(2, .int 16), (0, .ref 18), (1, .int _)] [] _ _ _ _
  refine pm_e_sim pm_a48_3 rfl ?_
  show pm_E _ _ _ 4 [(2, .int 16), (0, .ref 18), (1, .int _)] [.int 16] _ _ _ _
  refine pm_e_iff pm_a48_4 rfl (by decide +kernel) ?_
  show pm_E _ _ _ 7 [(2, .int 16), (0, .ref 18), (1, .int _)] [] _ _ _ _
  refine pm_e_sim pm_a48_7 rfl ?_
  show pm_E _ _ _ 8 [(2, .int 16), (0, .ref 18), (1, .int _)] [.ref 18] _ _ _ _
  refine pm_e_rd pm_a48_8 rfl rfl rfl ?_
  show pm_E _ _ _ 11 [(2, .int 16), (0, .ref 18), (1, .int _)] [.ref 21] _ _ _ _
  refine pm_e_sim pm_a48_11 rfl ?_
  show pm_E _ _ _ 12 [(2, .int 16), (0, .ref 18), (1, .int _)] [.ref 18, .ref 21] _ _ _ _
  refine pm_e_rd pm_a48_12 rfl rfl rfl ?_
  show pm_E _ _ _ 15 [(2, .int 16), (0, .ref 18), (1, .int _)] [.int 5, .ref 21] _ _ _ _
  refine pm_e_sim pm_a48_15 rfl ?_
  show pm_E _ _ _ 16 [(2, .int 16), (0, .ref 18), (1, .int _)] [.int _, .int 5, .ref 21] _ _ _ _
  refine pm_e_sim pm_a48_16 rfl ?_
  show pm_E _ _ _ 17 [(2, .int 16), (0, .ref 18), (1, .int _)] [.int 16, .int _, .int 5, .ref 21] _ _ _ _
  refine pm_e_sim pm_a48_17 rfl ?_
  show pm_E _ _ _ 18 [(2, .int 16), (0, .ref 18), (1, .int _)] [.int _, .int 5, .ref 21] _ _ _ _
  refine pm_e_sim pm_a48_18 rfl ?_
  refine pm_e_top (y := 255) (by decide +kernel) ?_
  show pm_E _ _ _ 21 [(2, .int 16), (0, .ref 18), (1, .int _)] [.int 255, .int _, .int 5, .ref 21] _ _ _ _
  refine pm_e_sim pm_a48_21 rfl ?_
  show pm_E _ _ _ 22 [(2, .int 16), (0, .ref 18), (1, .int _)] [.int _, .int 5, .ref 21] _ _ _ _
  refine pm_e_wr pm_a48_22 rfl rfl rfl rfl rfl ?_
  show pm_E _ _ _ 23 [(2, .int 16), (0, .ref 18), (1, .int _)] [] ((((pm_H0.set 1 (.inr (4, [.ref 2, .int 20]))).set 2 (.inl (0, 600, .inl _))).set 18 (.inr (9, pm_f9.set 4 (.int 5)))).set 21 (.inl (0, 600, .inl _))) _ _ _
  refine pm_e_sim pm_a48_23 rfl ?_
  show pm_E _ _ _ 24 [(2, .int 16), (0, .ref 18), (1, .int _)] [.ref 18] _ _ _ _
  refine pm_e_sim pm_a48_24 rfl ?_
  show pm_E _ _ _ 25 [(2, .int 16), (0, .ref 18), (1, .int _)] [.ref 18, .ref 18] _ _ _ _
  refine pm_e_rd pm_a48_25 rfl rfl rfl ?_
  show pm_E _ _ _ 28 [(2, .int 16), (0, .ref 18), (1, .int _)] [.int 5, .ref 18] _ _ _ _
  refine pm_e_sim pm_a48_28 rfl ?_
  refine pm_e_top (y := 1) (by decide +kernel) ?_
  show pm_E _ _ _ 29 [(2, .int 16), (0, .ref 18), (1, .int _)] [.int 1, .int 5, .ref 18] _ _ _ _
  refine pm_e_sim pm_a48_29 rfl ?_
  refine pm_e_top (y := 6) (by decide +kernel) ?_
  show pm_E _ _ _ 30 [(2, .int 16), (0, .ref 18), (1, .int _)] [.int 6, .ref 18] _ _ _ _
  refine pm_e_wr pm_a48_30 rfl rfl rfl rfl rfl ?_
  show pm_E _ _ _ 33 [(2, .int 16), (0, .ref 18), (1, .int _)] [] ((((pm_H0.set 1 (.inr (4, [.ref 2, .int 20]))).set 2 (.inl (0, 600, .inl _))).set 18 (.inr (9, pm_f9.set 4 (.int 6)))).set 21 (.inl (0, 600, .inl _))) _ _ _
  refine pm_e_inc (y := 8) pm_a48_33 rfl (by decide +kernel) (by decide +kernel) rfl ?_
  show pm_E _ _ _ 36 [(2, .int 8), (0, .ref 18), (1, .int _)] [] _ _ _ _
  refine pm_e_goto pm_a48_36 rfl ?_
  show pm_E _ _ _ 3 [(2, .int 8), (0, .ref 18), (1, .int _)] [] _ _ _ _
  refine pm_e_sim pm_a48_3 rfl ?_
  show pm_E _ _ _ 4 [(2, .int 8), (0, .ref 18), (1, .int _)] [.int 8] _ _ _ _
  refine pm_e_iff pm_a48_4 rfl (by decide +kernel) ?_
  show pm_E _ _ _ 7 [(2, .int 8), (0, .ref 18), (1, .int _)] [] _ _ _ _
  refine pm_e_sim pm_a48_7 rfl ?_
  show pm_E _ _ _ 8 [(2, .int 8), (0, .ref 18), (1, .int _)] [.ref 18] _ _ _ _
  refine pm_e_rd pm_a48_8 rfl rfl rfl ?_
  show pm_E _ _ _ 11 [(2, .int 8), (0, .ref 18), (1, .int _)] [.ref 21] _ _ _ _
  refine pm_e_sim pm_a48_11 rfl ?_
  show pm_E _ _ _ 12 [(2, .int 8), (0, .ref 18), (1, .int _)] [.ref 18, .ref 21] _ _ _ _
  refine pm_e_rd pm_a48_12 rfl rfl rfl ?_
  show pm_E _ _ _ 15 [(2, .int 8), (0, .ref 18), (1, .int _)] [.int 6, .ref 21] _ _ _ _
  refine pm_e_sim pm_a48_15 rfl ?_
  show pm_E _ _ _ 16 [(2, .int 8), (0, .ref 18), (1, .int _)] [.int _, .int 6, .ref 21] _ _ _ _
  refine pm_e_sim pm_a48_16 rfl ?_
  show pm_E _ _ _ 17 [(2, .int 8), (0, .ref 18), (1, .int _)] [.int 8, .int _, .int 6, .ref 21] _ _ _ _
  refine pm_e_sim pm_a48_17 rfl ?_
  show pm_E _ _ _ 18 [(2, .int 8), (0, .ref 18), (1, .int _)] [.int _, .int 6, .ref 21] _ _ _ _
  refine pm_e_sim pm_a48_18 rfl ?_
  refine pm_e_top (y := 255) (by decide +kernel) ?_
  show pm_E _ _ _ 21 [(2, .int 8), (0, .ref 18), (1, .int _)] [.int 255, .int _, .int 6, .ref 21] _ _ _ _
  refine pm_e_sim pm_a48_21 rfl ?_
  show pm_E _ _ _ 22 [(2, .int 8), (0, .ref 18), (1, .int _)] [.int _, .int 6, .ref 21] _ _ _ _
  refine pm_e_wr pm_a48_22 rfl rfl rfl rfl rfl ?_
  show pm_E _ _ _ 23 [(2, .int 8), (0, .ref 18), (1, .int _)] [] ((((pm_H0.set 1 (.inr (4, [.ref 2, .int 20]))).set 2 (.inl (0, 600, .inl _))).set 18 (.inr (9, pm_f9.set 4 (.int 6)))).set 21 (.inl (0, 600, .inl _))) _ _ _
  refine pm_e_sim pm_a48_23 rfl ?_
  show pm_E _ _ _ 24 [(2, .int 8), (0, .ref 18), (1, .int _)] [.ref 18] _ _ _ _
  refine pm_e_sim pm_a48_24 rfl ?_
  show pm_E _ _ _ 25 [(2, .int 8), (0, .ref 18), (1, .int _)] [.ref 18, .ref 18] _ _ _ _
  refine pm_e_rd pm_a48_25 rfl rfl rfl ?_
  show pm_E _ _ _ 28 [(2, .int 8), (0, .ref 18), (1, .int _)] [.int 6, .ref 18] _ _ _ _
  refine pm_e_sim pm_a48_28 rfl ?_
  refine pm_e_top (y := 1) (by decide +kernel) ?_
  show pm_E _ _ _ 29 [(2, .int 8), (0, .ref 18), (1, .int _)] [.int 1, .int 6, .ref 18] _ _ _ _
  refine pm_e_sim pm_a48_29 rfl ?_
  refine pm_e_top (y := 7) (by decide +kernel) ?_
  show pm_E _ _ _ 30 [(2, .int 8), (0, .ref 18), (1, .int _)] [.int 7, .ref 18] _ _ _ _
  refine pm_e_wr pm_a48_30 rfl rfl rfl rfl rfl ?_
  show pm_E _ _ _ 33 [(2, .int 8), (0, .ref 18), (1, .int _)] [] ((((pm_H0.set 1 (.inr (4, [.ref 2, .int 20]))).set 2 (.inl (0, 600, .inl _))).set 18 (.inr (9, pm_f9.set 4 (.int 7)))).set 21 (.inl (0, 600, .inl _))) _ _ _
  refine pm_e_inc (y := 0) pm_a48_33 rfl (by decide +kernel) (by decide +kernel) rfl ?_
  show pm_E _ _ _ 36 [(2, .int 0), (0, .ref 18), (1, .int _)] [] _ _ _ _
  refine pm_e_goto pm_a48_36 rfl ?_
  show pm_E _ _ _ 3 [(2, .int 0), (0, .ref 18), (1, .int _)] [] _ _ _ _
  refine pm_e_sim pm_a48_3 rfl ?_
  show pm_E _ _ _ 4 [(2, .int 0), (0, .ref 18), (1, .int _)] [.int 0] _ _ _ _
  refine pm_e_iff pm_a48_4 rfl (by decide +kernel) ?_
  show pm_E _ _ _ 7 [(2, .int 0), (0, .ref 18), (1, .int _)] [] _ _ _ _
  refine pm_e_sim pm_a48_7 rfl ?_
  show pm_E _ _ _ 8 [(2, .int 0), (0, .ref 18), (1, .int _)] [.ref 18] _ _ _ _
  refine pm_e_rd pm_a48_8 rfl rfl rfl ?_
  show pm_E _ _ _ 11 [(2, .int 0), (0, .ref 18), (1, .int _)] [.ref 21] _ _ _ _
  refine pm_e_sim pm_a48_11 rfl ?_
  show pm_E _ _ _ 12 [(2, .int 0), (0, .ref 18), (1, .int _)] [.ref 18, .ref 21] _ _ _ _
  refine pm_e_rd pm_a48_12 rfl rfl rfl ?_
  show pm_E _ _ _ 15 [(2, .int 0), (0, .ref 18), (1, .int _)] [.int 7, .ref 21] _ _ _ _
  refine pm_e_sim pm_a48_15 rfl ?_
  show pm_E _ _ _ 16 [(2, .int 0), (0, .ref 18), (1, .int _)] [.int _, .int 7, .ref 21] _ _ _ _
  refine pm_e_sim pm_a48_16 rfl ?_
  show pm_E _ _ _ 17 [(2, .int 0), (0, .ref 18), (1, .int _)] [.int 0, .int _, .int 7, .ref 21] _ _ _ _
  refine pm_e_sim pm_a48_17 rfl ?_
  show pm_E _ _ _ 18 [(2, .int 0), (0, .ref 18), (1, .int _)] [.int _, .int 7, .ref 21] _ _ _ _
  refine pm_e_sim pm_a48_18 rfl ?_
  refine pm_e_top (y := 255) (by decide +kernel) ?_
  show pm_E _ _ _ 21 [(2, .int 0), (0, .ref 18), (1, .int _)] [.int 255, .int _, .int 7, .ref 21] _ _ _ _
  refine pm_e_sim pm_a48_21 rfl ?_
  show pm_E _ _ _ 22 [(2, .int 0), (0, .ref 18), (1, .int _)] [.int _, .int 7, .ref 21] _ _ _ _
  refine pm_e_wr pm_a48_22 rfl rfl rfl rfl rfl ?_
  show pm_E _ _ _ 23 [(2, .int 0), (0, .ref 18), (1, .int _)] [] ((((pm_H0.set 1 (.inr (4, [.ref 2, .int 20]))).set 2 (.inl (0, 600, .inl _))).set 18 (.inr (9, pm_f9.set 4 (.int 7)))).set 21 (.inl (0, 600, .inl _))) _ _ _
  refine pm_e_sim pm_a48_23 rfl ?_
  show pm_E _ _ _ 24 [(2, .int 0), (0, .ref 18), (1, .int _)] [.ref 18] _ _ _ _
  refine pm_e_sim pm_a48_24 rfl ?_
  show pm_E _ _ _ 25 [(2, .int 0), (0, .ref 18), (1, .int _)] [.ref 18, .ref 18] _ _ _ _
  refine pm_e_rd pm_a48_25 rfl rfl rfl ?_
  show pm_E _ _ _ 28 [(2, .int 0), (0, .ref 18), (1, .int _)] [.int 7, .ref 18] _ _ _ _
  refine pm_e_sim pm_a48_28 rfl ?_
  refine pm_e_top (y := 1) (by decide +kernel) ?_
  show pm_E _ _ _ 29 [(2, .int 0), (0, .ref 18), (1, .int _)] [.int 1, .int 7, .ref 18] _ _ _ _
  refine pm_e_sim pm_a48_29 rfl ?_
  refine pm_e_top (y := 8) (by decide +kernel) ?_
  show pm_E _ _ _ 30 [(2, .int 0), (0, .ref 18), (1, .int _)] [.int 8, .ref 18] _ _ _ _
  refine pm_e_wr pm_a48_30 rfl rfl rfl rfl rfl ?_
  show pm_E _ _ _ 33 [(2, .int 0), (0, .ref 18), (1, .int _)] [] ((((pm_H0.set 1 (.inr (4, [.ref 2, .int 20]))).set 2 (.inl (0, 600, .inl _))).set 18 (.inr (9, pm_f9.set 4 (.int 8)))).set 21 (.inl (0, 600, .inl _))) _ _ _
  refine pm_e_inc (y := (-8)) pm_a48_33 rfl (by decide +kernel) (by decide +kernel) rfl ?_
  show pm_E _ _ _ 36 [(2, .int (-8)), (0, .ref 18), (1, .int _)] [] _ _ _ _
  refine pm_e_goto pm_a48_36 rfl ?_
  show pm_E _ _ _ 3 [(2, .int (-8)), (0, .ref 18), (1, .int _)] [] _ _ _ _
  refine pm_e_sim pm_a48_3 rfl ?_
  show pm_E _ _ _ 4 [(2, .int (-8)), (0, .ref 18), (1, .int _)] [.int (-8)] _ _ _ _
  refine pm_e_ift pm_a48_4 rfl (by decide +kernel) ?_
  show pm_E _ _ _ 39 [(2, .int (-8)), (0, .ref 18), (1, .int _)] [] _ _ _ _
  refine pm_e_ret pm_a48_39 rfl rfl rfl rfl rfl rfl rfl rfl ?_
  show pm_E _ _ _ 26 [(0, .ref 18), (1, .int _), (2, .int _), (3, .int _), (4, .int _), (5, .int _)] [] _ _ _ _
  refine pm_e_sim pm_a47_26 rfl ?_
  show pm_E _ _ _ 27 [(0, .ref 18), (1, .int _), (2, .int _), (3, .int _), (4, .int _), (5, .int _)] [.ref 18] _ _ _ _
  refine pm_e_sim pm_a47_27 rfl ?_
  show pm_E _ _ _ 28 [(0, .ref 18), (1, .int _), (2, .int _), (3, .int _), (4, .int _), (5, .int _)] [.int _, .ref 18] _ _ _ _
  refine pm_e_call (T2 := pm_mm48) pm_a47_28 rfl rfl rfl rfl rfl rfl rfl rfl rfl ?_
  show pm_E _ _ _ 0 [(0, .ref 18), (1, .int _)] [] _ _ _ _
  refine pm_e_sim pm_a48_0 rfl ?_
  refine pm_e_top (y := 24) (by decide +kernel) ?_
  show pm_E _ _ _ 2 [(0, .ref 18), (1, .int _)] [.int 24] _ _ _ _
  refine pm_e_sim pm_a48_2 rfl ?_
  show pm_E _ _ _ 3 [(2, .int 24), (0, .ref 18), (1, .int _)] [] _ _ _ _
  refine pm_e_sim pm_a48_3 rfl ?_
  show pm_E _ _ _ 4 [(2, .int 24), (0, .ref 18), (1, .int _)] [.int 24] _ _ _ _
  refine pm_e_iff pm_a48_4 rfl (by decide +kernel) ?_
  show pm_E _ _ _ 7 [(2, .int 24), (0, .ref 18), (1, .int _)] [] _ _ _ _
  refine pm_e_sim pm_a48_7 rfl ?_
  show pm_E _ _ _ 8 [(2, .int 24), (0, .ref 18), (1, .int _)] [.ref 18] _ _ _ _
  refine pm_e_rd pm_a48_8 rfl rfl rfl ?_
  show pm_E _ _ _ 11 [(2, .int 24), (0, .ref 18), (1, .int _)] [.ref 21] _ _ _ _
  refine pm_e_sim pm_a48_11 rfl ?_
  show pm_E _ _ _ 12 [(2, .int 24), (0, .ref 18), (1, .int _)] [.ref 18, .ref 21] _ _ _ _
  refine pm_e_rd pm_a48_12 rfl rfl rfl ?_
  show pm_E _ _ _ 15 [(2, .int 24), (0, .ref 18), (1, .int _)] [.int 8, .ref 21] _ _ _ _
  refine pm_e_sim pm_a48_15 rfl ?_
  show pm_E _ _ _ 16 [(2, .int 24), (0, .ref 18), (1, .int _)] [.int _, .int 8, .ref 21] _ _ _ _
  refine pm_e_sim pm_a48_16 rfl ?_
  show pm_E _ _ _ 17 [(2, .int 24), (0, .ref 18), (1, .int _)] [.int 24, .int _, .int 8, .ref 21] _ _ _ _
  refine pm_e_sim pm_a48_17 rfl ?_
  show pm_E _ _ _ 18 [(2, .int 24), (0, .ref 18), (1, .int _)] [.int _, .int 8, .ref 21] _ _ _ _
  refine pm_e_sim pm_a48_18 rfl ?_
  refine pm_e_top (y := 255) (by decide +kernel) ?_
  show pm_E _ _ _ 21 [(2, .int 24), (0, .ref 18), (1, .int _)] [.int 255, .int _, .int 8, .ref 21] _ _ _ _
  refine pm_e_sim pm_a48_21 rfl ?_
  show pm_E _ _ _ 22 [(2, .int 24), (0, .ref 18), (1, .int _)] [.int _, .int 8, .ref 21] _ _ _ _
  refine pm_e_wr pm_a48_22 rfl rfl rfl rfl rfl ?_
  show pm_E _ _ _ 23 [(2, .int 24), (0, .ref 18), (1, .int _)] [] ((((pm_H0.set 1 (.inr (4, [.ref 2, .int 20]))).set 2 (.inl (0, 600, .inl _))).set 18 (.inr (9, pm_f9.set 4 (.int 8)))).set 21 (.inl (0, 600, .inl _))) _ _ _
  refine pm_e_sim pm_a48_23 rfl ?_
  show pm_E _ _ _ 24 [(2, .int 24), (0, .ref 18), (1, .int _)] [.ref 18] _ _ _ _
  refine pm_e_sim pm_a48_24 rfl ?_
  show pm_E _ _ _ 25 [(2, .int 24), (0, .ref 18), (1, .int _)] [.ref 18, .ref 18] _ _ _ _
  refine pm_e_rd pm_a48_25 rfl rfl rfl ?_
  show pm_E _ _ _ 28 [(2, .int 24), (0, .ref 18), (1, .int _)] [.int 8, .ref 18] _ _ _ _
  refine pm_e_sim pm_a48_28 rfl ?_
  refine pm_e_top (y := 1) (by decide +kernel) ?_
  show pm_E _ _ _ 29 [(2, .int 24), (0, .ref 18), (1, .int _)] [.int 1, .int 8, .ref 18] _ _ _ _
  refine pm_e_sim pm_a48_29 rfl ?_
  refine pm_e_top (y := 9) (by decide +kernel) ?_
  show pm_E _ _ _ 30 [(2, .int 24), (0, .ref 18), (1, .int _)] [.int 9, .ref 18] _ _ _ _
  refine pm_e_wr pm_a48_30 rfl rfl rfl rfl rfl ?_
  show pm_E _ _ _ 33 [(2, .int 24), (0, .ref 18), (1, .int _)] [] ((((pm_H0.set 1 (.inr (4, [.ref 2, .int 20]))).set 2 (.inl (0, 600, .inl _))).set 18 (.inr (9, pm_f9.set 4 (.int 9)))).set 21 (.inl (0, 600, .inl _))) _ _ _
  refine pm_e_inc (y := 16) pm_a48_33 rfl (by decide +kernel) (by decide +kernel) rfl ?_
  show pm_E _ _ _ 36 [(2, .int 16), (0, .ref 18), (1, .int _)] [] _ _ _ _
  refine pm_e_goto pm_a48_36 rfl ?_
  show pm_E _ _ _ 3 [(2, .int 16), (0, .ref 18), (1, .int _)] [] _ _ _ _
  refine pm_e_sim pm_a48_3 rfl ?_
  show pm_E _ _ _ 4 [(2, .int 16), (0, .ref 18), (1, .int _)] [.int 16] _ _ _ _
  refine pm_e_iff pm_a48_4 rfl (by decide +kernel) ?_
  show pm_E _ _ _ 7 [(2, .int 16), (0, .ref 18), (1, .int _)] [] _ _ _ _
  refine pm_e_sim pm_a48_7 rfl ?_
  show pm_E _ _ _ 8 [(2, .int 16), (0, .ref 18), (1, .int _)] [.ref 18] _ _ _ _
  refine pm_e_rd pm_a48_8 rfl rfl rfl ?_
  show pm_E _ _ _ 11 [(2, .int 16), (0, .ref 18), (1, .int _)] [.ref 21] _ _ _ _
  refine pm_e_sim pm_a48_11 rfl ?_
  show pm_E _ _ _ 12 [(2, .int 16), (0, .ref 18), (1, .int _)] [.ref 18, .ref 21] _ _ _ _
  refine pm_e_rd pm_a48_12 rfl rfl rfl ?_
  show pm_E _ _ _ 15 [(2, .int 16), (0, .ref 18), (1, .int _)] [.int 9, .ref 21] _ _ _ _
  refine pm_e_sim pm_a48_15 rfl ?_
  show pm_E _ _ _ 16 [(2, .int 16), (0, .ref 18), (1, .int _)] [.int _, .int 9, .ref 21] _ _ _ _
  refine pm_e_sim pm_a48_16 rfl ?_
  show pm_E _ _ _ 17 [(2, .int 16), (0, .ref 18), (1, .int _)] [.int 16, .int _, .int 9, .ref 21] _ _ _ _
  refine pm_e_sim pm_a48_17 rfl ?_
  show pm_E _ _ _ 18 [(2, .int 16), (0, .ref 18), (1, .int _)] [.int _, .int 9, .ref 21] _ _ _ _
  refine pm_e_sim pm_a48_18 rfl ?_
  refine pm_e_top (y := 255) (by decide +kernel) ?_
  show pm_E _ _ _ 21 [(2, .int 16), (0, .ref 18), (1, .int _)] [.int 255, .int _, .int 9, .ref 21] _ _ _ _
  refine pm_e_sim pm_a48_21 rfl ?_
  show pm_E _ _ _ 22 [(2, .int 16), (0, .ref 18), (1, .int _)] [.int _, .int 9, .ref 21] _ _ _ _
  refine pm_e_wr pm_a48_22 rfl rfl rfl rfl rfl ?_
  show pm_E _ _ _ 23 [(2, .int 16), (0, .ref 18), (1, .int _)] [] ((((pm_H0.set 1 (.inr (4, [.ref 2, .int 20]))).set 2 (.inl (0, 600, .inl _))).set 18 (.inr (9, pm_f9.set 4 (.int 9)))).set 21 (.inl (0, 600, .inl _))) _ _ _
  refine pm_e_sim pm_a48_23 rfl ?_
  show pm_E _ _ _ 24 [(2, .int 16), (0, .ref 18), (1, .int _)] [.ref 18] _ _ _ _
  refine pm_e_sim pm_a48_24 rfl ?_
  show pm_E _ _ _ 25 [(2, .int 16), (0, .ref 18), (1, .int _)] [.ref 18, .ref 18] _ _ _ _
  refine pm_e_rd pm_a48_25 rfl rfl rfl ?_
  show pm_E _ _ _ 28 [(2, .int 16), (0, .ref 18), (1, .int _)] [.int 9, .ref 18] _ _ _ _
  refine pm_e_sim pm_a48_28 rfl ?_
  refine pm_e_top (y := 1) (by decide +kernel) ?_
  show pm_E _ _ _ 29 [(2, .int 16), (0, .ref 18), (1, .int _)] [.int 1, .int 9, .ref 18] _ _ _ _
  refine pm_e_sim pm_a48_29 rfl ?_
  refine pm_e_top (y := 10) (by decide +kernel) ?_
  show pm_E _ _ _ 30 [(2, .int 16), (0, .ref 18), (1, .int _)] [.int 10, .ref 18] _ _ _ _
  refine pm_e_wr pm_a48_30 rfl rfl rfl rfl rfl ?_
  show pm_E _ _ _ 33 [(2, .int 16), (0, .ref 18), (1, .int _)] [] ((((pm_H0.set 1 (.inr (4, [.ref 2, .int 20]))).set 2 (.inl (0, 600, .inl _))).set 18 (.inr (9, pm_f9.set 4 (.int 10)))).set 21 (.inl (0, 600, .inl _))) _ _ _
  refine pm_e_inc (y := 8) pm_a48_33 rfl (by decide +kernel) (by decide +kernel) rfl ?_
  show pm_E _ _ _ 36 [(2, .int 8), (0, .ref 18), (1, .int _)] [] _ _ _ _
  refine pm_e_goto pm_a48_36 rfl ?_
  show pm_E _ _ _ 3 [(2, .int 8), (0, .ref 18), (1, .int _)] [] _ _ _ _
  refine pm_e_sim pm_a48_3 rfl ?_
  show pm_E _ _ _ 4 [(2, .int 8), (0, .ref 18), (1, .int _)] [.int 8] _ _ _ _
  refine pm_e_iff pm_a48_4 rfl (by decide +kernel) ?_
  show pm_E _ _ _ 7 [(2, .int 8), (0, .ref 18), (1, .int _)] [] _ _ _ _
  refine pm_e_sim pm_a48_7 rfl ?_
  show pm_E _ _ _ 8 [(2, .int 8), (0, .ref 18), (1, .int _)] [.ref 18] _ _ _ _
  refine pm_e_rd pm_a48_8 rfl rfl rfl ?_
  show pm_E _ _ _ 11 [(2, .int 8), (0, .ref 18), (1, .int _)] [.ref 21] _ _ _ _
  refine pm_e_sim pm_a48_11 rfl ?_
  show pm_E _ _ _ 12 [(2, .int 8), (0, .ref 18), (1, .int _)] [.ref 18, .ref 21] _ _ _ _
  refine pm_e_rd pm_a48_12 rfl rfl rfl ?_
  show pm_E _ _ _ 15 [(2, .int 8), (0, .ref 18), (1, .int _)] [.int 10, .ref 21] _ _ _ _
  refine pm_e_sim pm_a48_15 rfl ?_
  show pm_E _ _ _ 16 [(2, .int 8), (0, .ref 18), (1, .int _)] [.int _, .int 10, .ref 21] _ _ _ _
  refine pm_e_sim pm_a48_16 rfl ?_
  show pm_E _ _ _ 17 [(2, .int 8), (0, .ref 18), (1, .int _)] [.int 8, .int _, .int 10, .ref 21] _ _ _ _
  refine pm_e_sim pm_a48_17 rfl ?_
  show pm_E _ _ _ 18 [(2, .int 8), (0, .ref 18), (1, .int _)] [.int _, .int 10, .ref 21] _ _ _ _
  refine pm_e_sim pm_a48_18 rfl ?_
  refine pm_e_top (y := 255) (by decide +kernel) ?_
  show pm_E _ _ _ 21 [(2, .int 8), (0, .ref 18), (1, .int _)] [.int 255, .int _, .int 10, .ref 21] _ _ _ _
  refine pm_e_sim pm_a48_21 rfl ?_
  show pm_E _ _ _ 22 [(2, .int 8), (0, .ref 18), (1, .int _)] [.int _, .int 10, .ref 21] _ _ _ _
  refine pm_e_wr pm_a48_22 rfl rfl rfl rfl rfl ?_
  show pm_E _ _ _ 23 [(2, .int 8), (0, .ref 18), (1, .int _)] [] ((((pm_H0.set 1 (.inr (4, [.ref 2, .int 20]))).set 2 (.inl (0, 600, .inl _))).set 18 (.inr (9, pm_f9.set 4 (.int 10)))).set 21 (.inl (0, 600, .inl _))) _ _ _
  refine pm_e_sim pm_a48_23 rfl ?_
  show pm_E _ _ _ 24 [(2, .int 8), (0, .ref 18), (1, .int _)] [.ref 18] _ _ _ _
  refine pm_e_sim pm_a48_24 rfl ?_
  show pm_E _ _ _ 25 [(2, .int 8), (0, .ref 18), (1, .int _)] [.ref 18, .ref 18] _ _ _ _
  refine pm_e_rd pm_a48_25 rfl rfl rfl ?_
  show pm_E _ _ _ 28 [(2, .int 8), (0, .ref 18), (1, .int _)] [.int 10, .ref 18] _ _ _ _
  refine pm_e_sim pm_a48_28 rfl ?_
  refine pm_e_top (y := 1) (by decide +kernel) ?_
  show pm_E _ _ _ 29 [(2, .int 8), (0, .ref 18), (1, .int _)] [.int 1, .int 10, .ref 18] _ _ _ _
  refine pm_e_sim pm_a48_29 rfl ?_
  refine pm_e_top (y := 11) (by decide +kernel) ?_
  show pm_E _ _ _ 30 [(2, .int 8), (0, .ref 18), (1, .int _)] [.int 11, .ref 18] _ _ _ _
  refine pm_e_wr pm_a48_30 rfl rfl rfl rfl rfl ?_
  show pm_E _ _ _ 33 [(2, .int 8), (0, .ref 18), (1, .int _)] [] ((((pm_H0.set 1 (.inr (4, [.ref 2, .int 20]))).set 2 (.inl (0, 600, .inl _))).set 18 (.inr (9, pm_f9.set 4 (.int 11)))).set 21 (.inl (0, 600, .inl _))) _ _ _
  refine pm_e_inc (y := 0) pm_a48_33 rfl (by decide +kernel) (by decide +kernel) rfl ?_
  show pm_E _ _ _ 36 [(2, .int 0), (0, .ref 18), (1, .int _)] [] _ _ _ _
  refine pm_e_goto pm_a48_36 rfl ?_
  show pm_E _ _ _ 3 [(2, .int 0), (0, .ref 18), (1, .int _)] [] _ _ _ _
  refine pm_e_sim pm_a48_3 rfl ?_
  show pm_E _ _ _ 4 [(2, .int 0), (0, .ref 18), (1, .int _)] [.int 0] _ _ _ _
  refine pm_e_iff pm_a48_4 rfl (by decide +kernel) ?_
  show pm_E _ _ _ 7 [(2, .int 0), (0, .ref 18), (1, .int _)] [] _ _ _ _
  refine pm_e_sim pm_a48_7 rfl ?_
  show pm_E _ _ _ 8 [(2, .int 0), (0, .ref 18), (1, .int _)] [.ref 18] _ _ _ _
  refine pm_e_rd pm_a48_8 rfl rfl rfl ?_
  show pm_E _ _ _ 11 [(2, .int 0), (0, .ref 18), (1, .int _)] [.ref 21] _ _ _ _
  refine pm_e_sim pm_a48_11 rfl ?_
  show pm_E _ _ _ 12 [(2, .int 0), (0, .ref 18), (1, .int _)] [.ref 18, .ref 21] _ _ _ _
  refine pm_e_rd pm_a48_12 rfl rfl rfl ?_
  show pm_E _ _ _ 15 [(2, .int 0), (0, .ref 18), (1, .int _)] [.int 11, .ref 21] _ _ _ _
  refine pm_e_sim pm_a48_15 rfl ?_
  show pm_E _ _ _ 16 [(2, .int 0), (0, .ref 18), (1, .int _)] [.int _, .int 11, .ref 21] _ _ _ _
  refine pm_e_sim pm_a48_16 rfl ?_
  show pm_E _ _ _ 17 [(2, .int 0), (0, .ref 18), (1, .int _)] [.int 0, .int _, .int 11, .ref 21] _ _ _ _
  refine pm_e_sim pm_a48_17 rfl ?_
  show pm_E _ _ _ 18 [(2, .int 0), (0, .ref 18), (1, .int _)] [.int _, .int 11, .ref 21] _ _ _ _
  refine pm_e_sim pm_a48_18 rfl ?_
  refine pm_e_top (y := 255) (by decide +kernel) ?_
  show pm_E _ _ _ 21 [(2, .int 0), (0, .ref 18), (1, .int _)] [.int 255, .int _, .int 11, .ref 21] _ _ _ _
  refine pm_e_sim pm_a48_21 rfl ?_
  show pm_E _ _ _ 22 [(2, .int 0), (0, .ref 18), (1, .int _)] [.int _, .int 11, .ref 21] _ _ _ _
  refine pm_e_wr pm_a48_22 rfl rfl rfl rfl rfl ?_
  show pm_E _ _ _ 23 [(2, .int 0), (0, .ref 18), (1, .int _)] [] ((((pm_H0.set 1 (.inr (4, [.ref 2, .int 20]))).set 2 (.inl (0, 600, .inl _))).set 18 (.inr (9, pm_f9.set 4 (.int 11)))).set 21 (.inl (0, 600, .inl _))) _ _ _
  refine pm_e_sim pm_a48_23 rfl ?_
  show pm_E _ _ _ 24 [(2, .int 0), (0, .ref 18), (1, .int _)] [.ref 18] _ _ _ _
  refine pm_e_sim pm_a48_24 rfl ?_
  show pm_E _ _ _ 25 [(2, .int 0), (0, .ref 18), (1, .int _)] [.ref 18, .ref 18] _ _ _ _
  refine pm_e_rd pm_a48_25 rfl rfl rfl ?_
  show pm_E _ _ _ 28 [(2, .int 0), (0, .ref 18), (1, .int _)] [.int 11, .ref 18] _ _ _ _
  refine pm_e_sim pm_a48_28 rfl ?_
  refine pm_e_top (y := 1) (by decide +kernel) ?_
  show pm_E _ _ _ 29 [(2, .int 0), (0, .ref 18), (1, .int _)] [.int 1, .int 11, .ref 18] _ _ _ _
  refine pm_e_sim pm_a48_29 rfl ?_
  refine pm_e_top (y := 12) (by decide +kernel) ?_
  show pm_E _ _ _ 30 [(2, .int 0), (0, .ref 18), (1, .int _)] [.int 12, .ref 18] _ _ _ _
  refine pm_e_wr pm_a48_30 rfl rfl rfl rfl rfl ?_
  show pm_E _ _ _ 33 [(2, .int 0), (0, .ref 18), (1, .int _)] [] ((((pm_H0.set 1 (.inr (4, [.ref 2, .int 20]))).set 2 (.inl (0, 600, .inl _))).set 18 (.inr (9, pm_f9.set 4 (.int 12)))).set 21 (.inl (0, 600, .inl _))) _ _ _
  refine pm_e_inc (y := (-8)) pm_a48_33 rfl (by decide +kernel) (by decide +kernel) rfl ?_
  show pm_E _ _ _ 36 [(2, .int (-8)), (0, .ref 18), (1, .int _)] [] _ _ _ _
  refine pm_e_goto pm_a48_36 rfl ?_
  show pm_E _ _ _ 3 [(2, .int (-8)), (0, .ref 18), (1, .int _)] [] _ _ _ _
  refine pm_e_sim pm_a48_3 rfl ?_
  show pm_E _ _ _ 4 [(2, .int (-8)), (0, .ref 18), (1, .int _)] [.int (-8)] _ _ _ _
  refine pm_e_ift pm_a48_4 rfl (by decide +kernel) ?_
  show pm_E _ _ _ 39 [(2, .int (-8)), (0, .ref 18), (1, .int _)] [] _ _ _ _
  refine pm_e_ret pm_a48_39 rfl rfl rfl rfl rfl rfl rfl rfl ?_
  show pm_E _ _ _ 31 [(0, .ref 18), (1, .int _), (2, .int _), (3, .int _), (4, .int _), (5, .int _)] [] _ _ _ _
  refine pm_e_sim pm_a47_31 rfl ?_
  show pm_E _ _ _ 32 [(0, .ref 18), (1, .int _), (2, .int _), (3, .int _), (4, .int _), (5, .int _)] [.ref 18] _ _ _ _
  refine pm_e_sim pm_a47_32 rfl ?_
  show pm_E _ _ _ 34 [(0, .ref 18), (1, .int _), (2, .int _), (3, .int _), (4, .int _), (5, .int _)] [.int _, .ref 18] _ _ _ _
  refine pm_e_call (T2 := pm_mm48) pm_a47_34 rfl rfl rfl rfl rfl rfl rfl rfl rfl ?_
  show pm_E _ _ _ 0 [(0, .ref 18), (1, .int _)] [] _ _ _ _
  refine pm_e_sim pm_a48_0 rfl ?_
  refine pm_e_top (y := 24) (by decide +kernel) ?_
  show pm_E _ _ _ 2 [(0, .ref 18), (1, .int _)] [.int 24] _ _ _ _
  refine pm_e_sim pm_a48_2 rfl ?_
  show pm_E _ _ _ 3 [(2, .int 24), (0, .ref 18), (1, .int _)] [] _ _ _ _
  refine pm_e_sim pm_a48_3 rfl ?_
  show pm_E _ _ _ 4 [(2, .int 24), (0, .ref 18), (1, .int _)] [.int 24] _ _ _ _
  refine pm_e_iff pm_a48_4 rfl (by decide +kernel) ?_
  show pm_E _ _ _ 7 [(2, .int 24), (0, .ref 18), (1, .int _)] [] _ _ _ _
  refine pm_e_sim pm_a48_7 rfl ?_
  show pm_E _ _ _ 8 [(2, .int 24), (0, .ref 18), (1, .int _)] [.ref 18] _ _ _ _
  refine pm_e_rd pm_a48_8 rfl rfl rfl ?_
  show pm_E _ _ _ 11 [(2, .int 24), (0, .ref 18), (1, .int _)] [.ref 21] _ _ _ _
  refine pm_e_sim pm_a48_11 rfl ?_
  show pm_E _ _ _ 12 [(2, .int 24), (0, .ref 18), (1, .int _)] [.ref 18, .ref 21] _ _ _ _
  refine pm_e_rd pm_a48_12 rfl rfl rfl ?_
  show pm_E _ _ _ 15 [(2, .int 24), (0, .ref 18), (1, .int _)] [.int 12, .ref 21] _ _ _ _
  refine pm_e_sim pm_a48_15 rfl ?_
  show pm_E _ _ _ 16 [(2, .int 24), (0, .ref 18), (1, .int _)] [.int _, .int 12, .ref 21] _ _ _ _
  refine pm_e_sim pm_a48_16 rfl ?_
  show pm_E _ _ _ 17 [(2, .int 24), (0, .ref 18), (1, .int _)] [.int 24, .int _, .int 12, .ref 21] _ _ _ _
  refine pm_e_sim pm_a48_17 rfl ?_
  show pm_E _ _ _ 18 [(2, .int 24), (0, .ref 18), (1, .int _)] [.int _, .int 12, .ref 21] _ _ _ _
  refine pm_e_sim pm_a48_18 rfl ?_
  refine pm_e_top (y := 255) (by decide +kernel) ?_
  show pm_E _ _ _ 21 [(2, .int 24), (0, .ref 18), (1, .int _)] [.int 255, .int _, .int 12, .ref 21] _ _ _ _
  refine pm_e_sim pm_a48_21 rfl ?_
  show pm_E _ _ _ 22 [(2, .int 24), (0, .ref 18), (1, .int _)] [.int _, .int 12, .ref 21] _ _ _ _
  refine pm_e_wr pm_a48_22 rfl rfl rfl rfl rfl ?_
  show pm_E _ _ _ 23 [(2, .int 24), (0, .ref 18), (1, .int _)] [] ((((pm_H0.set 1 (.inr (4, [.ref 2, .int 20]))).set 2 (.inl (0, 600, .inl _))).set 18 (.inr (9, pm_f9.set 4 (.int 12)))).set 21 (.inl (0, 600, .inl _))) _ _ _
  refine pm_e_sim pm_a48_23 rfl ?_
  show pm_E _ _ _ 24 [(2, .int 24), (0, .ref 18), (1, .int _)] [.ref 18] _ _ _ _
  refine pm_e_sim pm_a48_24 rfl ?_
  show pm_E _ _ _ 25 [(2, .int 24), (0, .ref 18), (1, .int _)] [.ref 18, .ref 18] _ _ _ _
  refine pm_e_rd pm_a48_25 rfl rfl rfl ?_
  show pm_E _ _ _ 28 [(2, .int 24), (0, .ref 18), (1, .int _)] [.int 12, .ref 18] _ _ _ _
  refine pm_e_sim pm_a48_28 rfl ?_
  refine pm_e_top (y := 1) (by decide +kernel) ?_
  show pm_E _ _ _ 29 [(2, .int 24), (0, .ref 18), (1, .int _)] [.int 1, .int 12, .ref 18] _ _ _ _
  refine pm_e_sim pm_a48_29 rfl ?_
  refine pm_e_top (y := 13) (by decide +kernel) ?_
  show pm_E _ _ _ 30 [(2, .int 24), (0, .ref 18), (1, .int _)] [.int 13, .ref 18] _ _ _ _
  refine pm_e_wr pm_a48_30 rfl rfl rfl rfl rfl ?_
  show pm_E _ _ _ 33 [(2, .int 24), (0, .ref 18), (1, .int _)] [] ((((pm_H0.set 1 (.inr (4, [.ref 2, .int 20]))).set 2 (.inl (0, 600, .inl _))).set 18 (.inr (9, pm_f9.set 4 (.int 13)))).set 21 (.inl (0, 600, .inl _))) _ _ _
  refine pm_e_inc (y := 16) pm_a48_33 rfl (by decide +kernel) (by decide +kernel) rfl ?_
  show pm_E _ _ _ 36 [(2, .int 16), (0, .ref 18), (1, .int _)] [] _ _ _ _
  refine pm_e_goto pm_a48_36 rfl ?_
  show pm_E _ _ _ 3 [(2, .int 16), (0, .ref 18), (1, .int _)] [] _ _ _ _
  refine pm_e_sim pm_a48_3 rfl ?_
  show pm_E _ _ _ 4 [(2, .int 16), (0, .ref 18), (1, .int _)] [.int 16] _ _ _ _
  refine pm_e_iff pm_a48_4 rfl (by decide +kernel) ?_
  show pm_E _ _ _ 7 [(2, .int 16), (0, .ref 18), (1, .int _)] [] _ _ _ _
  refine pm_e_sim pm_a48_7 rfl ?_
  show pm_E _ _ _ 8 [(2, .int 16), (0, .ref 18), (1, .int _)] [.ref 18] _ _ _ _
  refine pm_e_rd pm_a48_8 rfl rfl rfl ?_
  show pm_E _ _ _ 11 [(2, .int 16), (0, .ref 18), (1, .int _)] [.ref 21] _ _ _ _
  refine pm_e_sim pm_a48_11 rfl ?_
  show pm_E _ _ _ 12 [(2, .int 16), (0, .ref 18), (1, .int _)] [.ref 18, .ref 21] _ _ _ _
  refine pm_e_rd pm_a48_12 rfl rfl rfl ?_
  show pm_E _ _ _ 15 [(2, .int 16), (0, .ref 18), (1, .int _)] [.int 13, .ref 21] _ _ _ _
  refine pm_e_sim pm_a48_15 rfl ?_
  show pm_E _ _ _ 16 [(2, .int 16), (0, .ref 18), (1, .int _)] [.int _, .int 13, .ref 21] _ _ _ _
  refine pm_e_sim pm_a48_16 rfl ?_
  show pm_E _ _ _ 17 [(2, .int 16), (0, .ref 18), (1, .int _)] [.int 16, .int _, .int 13, .ref 21] _ _ _ _
  refine pm_e_sim pm_a48_17 rfl ?_
  show pm_E _ _ _ 18 [(2, .int 16), (0, .ref 18), (1, .int _)] [.int _, .int 13, .ref 21] _ _ _ _
  refine pm_e_sim pm_a48_18 rfl ?_
  refine pm_e_top (y := 255) (by decide +kernel) ?_
  show pm_E _ _ _ 21 [(2, .int 16), (0, .ref 18), (1, .int _)] [.int 255, .int _, .int 13, .ref 21] _ _ _ _
  refine pm_e_sim pm_a48_21 rfl ?_
  show pm_E _ _ _ 22 [(2, .int 16), (0, .ref 18), (1, .int _)] [.int _, .int 13, .ref 21] _ _ _ _
  refine pm_e_wr pm_a48_22 rfl rfl rfl rfl rfl ?_
  show pm_E _ _ _ 23 [(2, .int 16), (0, .ref 18), (1, .int _)] [] ((((pm_H0.set 1 (.inr (4, [.ref 2, .int 20]))).set 2 (.inl (0, 600, .inl _))).set 18 (.inr (9, pm_f9.set 4 (.int 13)))).set 21 (.inl (0, 600, .inl _))) _ _ _
  refine pm_e_sim pm_a48_23 rfl ?_
  show pm_E _ _ _ 24 [(2, .int 16), (0, .ref 18), (1, .int _)] [.ref 18] _ _ _ _
  refine pm_e_sim pm_a48_24 rfl ?_
  show pm_E _ _ _ 25 [(2, .int 16), (0, .ref 18), (1, .int _)] [.ref 18, .ref 18] _ _ _ _
  refine pm_e_rd pm_a48_25 rfl rfl rfl ?_
  show pm_E _ _ _ 28 [(2, .int 16), (0, .ref 18), (1, .int _)] [.int 13, .ref 18] _ _ _ _
  refine pm_e_sim pm_a48_28 rfl ?_
  refine pm_e_top (y := 1) (by decide +kernel) ?_
  show pm_E _ _ _ 29 [(2, .int 16), (0, .ref 18), (1, .int _)] [.int 1, .int 13, .ref 18] _ _ _ _
  refine pm_e_sim pm_a48_29 rfl ?_
  refine pm_e_top (y := 14) (by decide +kernel) ?_
  show pm_E _ _ _ 30 [(2, .int 16), (0, .ref 18), (1, .int _)] [.int 14, .ref 18] _ _ _ _
  refine pm_e_wr pm_a48_30 rfl rfl rfl rfl rfl ?_
  show pm_E _ _ _ 33 [(2, .int 16), (0, .ref 18), (1, .int _)] [] ((((pm_H0.set 1 (.inr (4, [.ref 2, .int 20]))).set 2 (.inl (0, 600, .inl _))).set 18 (.inr (9, pm_f9.set 4 (.int 14)))).set 21 (.inl (0, 600, .inl _))) _ _ _
  refine pm_e_inc (y := 8) pm_a48_33 rfl (by decide +kernel) (by decide +kernel) rfl ?_
  show pm_E _ _ _ 36 [(2, .int 8), (0, .ref 18), (1, .int _)] [] _ _ _ _
  refine pm_e_goto pm_a48_36 rfl ?_
  show pm_E _ _ _ 3 [(2, .int 8), (0, .ref 18), (1, .int _)] [] _ _ _ _
  refine pm_e_sim pm_a48_3 rfl ?_
  show pm_E _ _ _ 4 [(2, .int 8), (0, .ref 18), (1, .int _)] [.int 8] _ _ _ _
  refine pm_e_iff pm_a48_4 rfl (by decide +kernel) ?_
  show pm_E _ _ _ 7 [(2, .int 8), (0, .ref 18), (1, .int _)] [] _ _ _ _
  refine pm_e_sim pm_a48_7 rfl ?_
  show pm_E _ _ _ 8 [(2, .int 8), (0, .ref 18), (1, .int _)] [.ref 18] _ _ _ _
  refine pm_e_rd pm_a48_8 rfl rfl rfl ?_
  show pm_E _ _ _ 11 [(2, .int 8), (0, .ref 18), (1, .int _)] [.ref 21] _ _ _ _
  refine pm_e_sim pm_a48_11 rfl ?_
  show pm_E _ _ _ 12 [(2, .int 8), (0, .ref 18), (1, .int _)] [.ref 18, .ref 21] _ _ _ _
  refine pm_e_rd pm_a48_12 rfl rfl rfl ?_
  show pm_E _ _ _ 15 [(2, .int 8), (0, .ref 18), (1, .int _)] [.int 14, .ref 21] _ _ _ _
  refine pm_e_sim pm_a48_15 rfl ?_
  show pm_E _ _ _ 16 [(2, .int 8), (0, .ref 18), (1, .int _)] [.int _, .int 14, .ref 21] _ _ _ _
  refine pm_e_sim pm_a48_16 rfl ?_
  show pm_E _ _ _ 17 [(2, .int 8), (0, .ref 18), (1, .int _)] [.int 8, .int _, .int 14, .ref 21] _ _ _ _
  refine pm_e_sim pm_a48_17 rfl ?_
  show pm_E _ _ _ 18 [(2, .int 8), (0, .ref 18), (1, .int _)] [.int _, .int 14, .ref 21] _ _ _ _
  refine pm_e_sim pm_a48_18 rfl ?_
  refine pm_e_top (y := 255) (by decide +kernel) ?_
  show pm_E _ _ _ 21 [(2, .int 8), (0, .ref 18), (1, .int _)] [.int 255, .int _, .int 14, .ref 21] _ _ _ _
  refine pm_e_sim pm_a48_21 rfl ?_
  show pm_E _ _ _ 22 [(2, .int 8), (0, .ref 18), (1, .int _)] [.int _, .int 14, .ref 21] _ _ _ _
  refine pm_e_wr pm_a48_22 rfl rfl rfl rfl rfl ?_
  show pm_E _ _ _ 23 [(2, .int 8), (0, .ref 18), (1, .int _)] [] ((((pm_H0.set 1 (.inr (4, [.ref 2, .int 20]))).set 2 (.inl (0, 600, .inl _))).set 18 (.inr (9, pm_f9.set 4 (.int 14)))).set 21 (.inl (0, 600, .inl _))) _ _ _
  refine pm_e_sim pm_a48_23 rfl ?_
  show pm_E _ _ _ 24 [(2, .int 8), (0, .ref 18), (1, .int _)] [.ref 18] _ _ _ _
  refine pm_e_sim pm_a48_24 rfl ?_
  show pm_E _ _ _ 25 [(2, .int 8), (0, .ref 18), (1, .int _)] [.ref 18, .ref 18] _ _ _ _
  refine pm_e_rd pm_a48_25 rfl rfl rfl ?_
  show pm_E _ _ _ 28 [(2, .int 8), (0, .ref 18), (1, .int _)] [.int 14, .ref 18] _ _ _ _
  refine pm_e_sim pm_a48_28 rfl ?_
  refine pm_e_top (y := 1) (by decide +kernel) ?_
  show pm_E _ _ _ 29 [(2, .int 8), (0, .ref 18), (1, .int _)] [.int 1, .int 14, .ref 18] _ _ _ _
  refine pm_e_sim pm_a48_29 rfl ?_
  refine pm_e_top (y := 15) (by decide +kernel) ?_
  show pm_E _ _ _ 30 [(2, .int 8), (0, .ref 18), (1, .int _)] [.int 15, .ref 18] _ _ _ _
  refine pm_e_wr pm_a48_30 rfl rfl rfl rfl rfl ?_
  show pm_E _ _ _ 33 [(2, .int 8), (0, .ref 18), (1, .int _)] [] ((((pm_H0.set 1 (.inr (4, [.ref 2, .int 20]))).set 2 (.inl (0, 600, .inl _))).set 18 (.inr (9, pm_f9.set 4 (.int 15)))).set 21 (.inl (0, 600, .inl _))) _ _ _
  refine pm_e_inc (y := 0) pm_a48_33 rfl (by decide +kernel) (by decide +kernel) rfl ?_
  show pm_E _ _ _ 36 [(2, .int 0), (0, .ref 18), (1, .int _)] [] _ _ _ _
  refine pm_e_goto pm_a48_36 rfl ?_
  show pm_E _ _ _ 3 [(2, .int 0), (0, .ref 18), (1, .int _)] [] _ _ _ _
  refine pm_e_sim pm_a48_3 rfl ?_
  show pm_E _ _ _ 4 [(2, .int 0), (0, .ref 18), (1, .int _)] [.int 0] _ _ _ _
  refine pm_e_iff pm_a48_4 rfl (by decide +kernel) ?_
  show pm_E _ _ _ 7 [(2, .int 0), (0, .ref 18), (1, .int _)] [] _ _ _ _
  refine pm_e_sim pm_a48_7 rfl ?_
  show pm_E _ _ _ 8 [(2, .int 0), (0, .ref 18), (1, .int _)] [.ref 18] _ _ _ _
  refine pm_e_rd pm_a48_8 rfl rfl rfl ?_
  show pm_E _ _ _ 11 [(2, .int 0), (0, .ref 18), (1, .int _)] [.ref 21] _ _ _ _
  refine pm_e_sim pm_a48_11 rfl ?_
  show pm_E _ _ _ 12 [(2, .int 0), (0, .ref 18), (1, .int _)] [.ref 18, .ref 21] _ _ _ _
  refine pm_e_rd pm_a48_12 rfl rfl rfl ?_
  show pm_E _ _ _ 15 [(2, .int 0), (0, .ref 18), (1, .int _)] [.int 15, .ref 21] _ _ _ _
  refine pm_e_sim pm_a48_15 rfl ?_
  show pm_E _ _ _ 16 [(2, .int 0), (0, .ref 18), (1, .int _)] [.int _, .int 15, .ref 21] _ _ _ _
  refine pm_e_sim pm_a48_16 rfl ?_
  show pm_E _ _ _ 17 [(2, .int 0), (0, .ref 18), (1, .int _)] [.int 0, .int _, .int 15, .ref 21] _ _ _ _
  refine pm_e_sim pm_a48_17 rfl ?_
  show pm_E _ _ _ 18 [(2, .int 0), (0, .ref 18), (1, .int _)] [.int _, .int 15, .ref 21] _ _ _ _
  refine pm_e_sim pm_a48_18 rfl ?_
  refine pm_e_top (y := 255) (by decide +kernel) ?_
  show pm_E _ _ _ 21 [(2, .int 0), (0, .ref 18), (1, .int _)] [.int 255, .int _, .int 15, .ref 21] _ _ _ _
  refine pm_e_sim pm_a48_21 rfl ?_
  show pm_E _ _ _ 22 [(2, .int 0), (0, .ref 18), (1, .int _)] [.int _, .int 15, .ref 21] _ _ _ _
  refine pm_e_wr pm_a48_22 rfl rfl rfl rfl rfl ?_
  show pm_E _ _ _ 23 [(2, .int 0), (0, .ref 18), (1, .int _)] [] ((((pm_H0.set 1 (.inr (4, [.ref 2, .int 20]))).set 2 (.inl (0, 600, .inl _))).set 18 (.inr (9, pm_f9.set 4 (.int 15)))).set 21 (.inl (0, 600, .inl _))) _ _ _
  refine pm_e_sim pm_a48_23 rfl ?_
  show pm_E _ _ _ 24 [(2, .int 0), (0, .ref 18), (1, .int _)] [.ref 18] _ _ _ _
  refine pm_e_sim pm_a48_24 rfl ?_
  show pm_E _ _ _ 25 [(2, .int 0), (0, .ref 18), (1, .int _)] [.ref 18, .ref 18] _ _ _ _
  refine pm_e_rd pm_a48_25 rfl rfl rfl ?_
  show pm_E _ _ _ 28 [(2, .int 0), (0, .ref 18), (1, .int _)] [.int 15, .ref 18] _ _ _ _
  refine pm_e_sim pm_a48_28 rfl ?_
  refine pm_e_top (y := 1) (by decide +kernel) ?_
  show pm_E _ _ _ 29 [(2, .int 0), (0, .ref 18), (1, .int _)] [.int 1, .int 15, .ref 18] _ _ _ _
  refine pm_e_sim pm_a48_29 rfl ?_
  refine pm_e_top (y := 16) (by decide +kernel) ?_
  show pm_E _ _ _ 30 [(2, .int 0), (0, .ref 18), (1, .int _)] [.int 16, .ref 18] _ _ _ _
  refine pm_e_wr pm_a48_30 rfl rfl rfl rfl rfl ?_
  show pm_E _ _ _ 33 [(2, .int 0), (0, .ref 18), (1, .int _)] [] ((((pm_H0.set 1 (.inr (4, [.ref 2, .int 20]))).set 2 (.inl (0, 600, .inl _))).set 18 (.inr (9, pm_f9.set 4 (.int 16)))).set 21 (.inl (0, 600, .inl _))) _ _ _
  refine pm_e_inc (y := (-8)) pm_a48_33 rfl (by decide +kernel) (by decide +kernel) rfl ?_
  show pm_E _ _ _ 36 [(2, .int (-8)), (0, .ref 18), (1, .int _)] [] _ _ _ _
  refine pm_e_goto pm_a48_36 rfl ?_
  show pm_E _ _ _ 3 [(2, .int (-8)), (0, .ref 18), (1, .int _)] [] _ _ _ _
  refine pm_e_sim pm_a48_3 rfl ?_
  show pm_E _ _ _ 4 [(2, .int (-8)), (0, .ref 18), (1, .int _)] [.int (-8)] _ _ _ _
  refine pm_e_ift pm_a48_4 rfl (by decide +kernel) ?_
  show pm_E _ _ _ 39 [(2, .int (-8)), (0, .ref 18), (1, .int _)] [] _ _ _ _
  refine pm_e_ret pm_a48_39 rfl rfl rfl rfl rfl rfl rfl rfl ?_
  show pm_E _ _ _ 37 [(0, .ref 18), (1, .int _), (2, .int _), (3, .int _), (4, .int _), (5, .int _)] [] _ _ _ _
  refine pm_e_sim pm_a47_37 rfl ?_
  show pm_E _ _ _ 38 [(0, .ref 18), (1, .int _), (2, .int _), (3, .int _), (4, .int _), (5, .int _)] [.ref 18] _ _ _ _
  refine pm_e_sim pm_a47_38 rfl ?_
  show pm_E _ _ _ 40 [(0, .ref 18), (1, .int _), (2, .int _), (3, .int _), (4, .int _), (5, .int _)] [.int _, .ref 18] _ _ _ _
  refine pm_e_call (T2 := pm_mm48) pm_a47_40 rfl rfl rfl rfl rfl rfl rfl rfl rfl ?_
  show pm_E _ _ _ 0 [(0, .ref 18), (1, .int _)] [] _ _ _ _
  refine pm_e_sim pm_a48_0 rfl ?_
  refine pm_e_top (y := 24) (by decide +kernel) ?_
  show pm_E _ _ _ 2 [(0, .ref 18), (1, .int _)] [.int 24] _ _ _ _
  refine pm_e_sim pm_a48_2 rfl ?_
  show pm_E _ _ _ 3 [(2, .int 24), (0, .ref 18), (1, .int _)] [] _ _ _ _
  refine pm_e_sim pm_a48_3 rfl ?_
  show pm_E _ _ _ 4 [(2, .int 24), (0, .ref 18), (1, .int _)] [.int 24] _ _ _ _
  refine pm_e_iff pm_a48_4 rfl (by decide +kernel) ?_
  show pm_E _ _ _ 7 [(2, .int 24), (0, .ref 18), (1, .int _)] [] _ _ _ _
  refine pm_e_sim pm_a48_7 rfl ?_
  show pm_E _ _ _ 8 [(2, .int 24), (0, .ref 18), (1, .int _)] [.ref 18] _ _ _ _
  refine pm_e_rd pm_a48_8 rfl rfl rfl ?_
  show pm_E _ _ _ 11 [(2, .int 24), (0, .ref 18), (1, .int _)] [.ref 21] _ _ _ _
  refine pm_e_sim pm_a48_11 rfl ?_
  show pm_E _ _ _ 12 [(2, .int 24), (0, .ref 18), (1, .int _)] [.ref 18, .ref 21] _ _ _ _
  refine pm_e_rd pm_a48_12 rfl rfl rfl ?_
  show pm_E _ _ _ 15 [(2, .int 24), (0, .ref 18), (1, .int _)] [.int 16, .ref 21] _ _ _ _
  refine pm_e_sim pm_a48_15 rfl ?_
  show pm_E _ _ _ 16 [(2, .int 24), (0, .ref 18), (1, .int _)] [.int _, .int 16, .ref 21] _ _ _ _
  refine pm_e_sim pm_a48_16 rfl ?_
  show pm_E _ _ _ 17 [(2, .int 24), (0, .ref 18), (1, .int _)] [.int 24, .int _, .int 16, .ref 21] _ _ _ _
  refine pm_e_sim pm_a48_17 rfl ?_
  show pm_E _ _ _ 18 [(2, .int 24), (0, .ref 18), (1, .int _)] [.int _, .int 16, .ref 21] _ _ _ _
  refine pm_e_sim pm_a48_18 rfl ?_
  refine pm_e_top (y := 255) (by decide +kernel) ?_
  show pm_E _ _ _ 21 [(2, .int 24), (0, .ref 18), (1, .int _)] [.int 255, .int _, .int 16, .ref 21] _ _ _ _
  refine pm_e_sim pm_a48_21 rfl ?_
  show pm_E _ _ _ 22 [(2, .int 24), (0, .ref 18), (1, .int _)] [.int _, .int 16, .ref 21] _ _ _ _
  refine pm_e_wr pm_a48_22 rfl rfl rfl rfl rfl ?_
  show pm_E _ _ _ 23 [(2, .int 24), (0, .ref 18), (1, .int _)] [] ((((pm_H0.set 1 (.inr (4, [.ref 2, .int 20]))).set 2 (.inl (0, 600, .inl _))).set 18 (.inr (9, pm_f9.set 4 (.int 16)))).set 21 (.inl (0, 600, .inl _))) _ _ _
  refine pm_e_sim pm_a48_23 rfl ?_
  show pm_E _ _ _ 24 [(2, .int 24), (0, .ref 18), (1, .int _)] [.ref 18] _ _ _ _
  refine pm_e_sim pm_a48_24 rfl ?_
  show pm_E _ _ _ 25 [(2, .int 24), (0, .ref 18), (1, .int _)] [.ref 18, .ref 18] _ _ _ _
  refine pm_e_rd pm_a48_25 rfl rfl rfl ?_
  show pm_E _ _ _ 28 [(2, .int 24), (0, .ref 18), (1, .int _)] [.int 16, .ref 18] _ _ _ _
  refine pm_e_sim pm_a48_28 rfl ?_
  refine pm_e_top (y := 1) (by decide +kernel) ?_
  show pm_E _ _ _ 29 [(2, .int 24), (0, .ref 18), (1, .int _)] [.int 1, .int 16, .ref 18] _ _ _ _
  refine pm_e_sim pm_a48_29 rfl ?_
  refine pm_e_top (y := 17) (by decide +kernel) ?_
  show pm_E _ _ _ 30 [(2, .int 24), (0, .ref 18), (1, .int _)] [.int 17, .ref 18] _ _ _ _
  refine pm_e_wr pm_a48_30 rfl rfl rfl rfl rfl ?_
  show pm_E _ _ _ 33 [(2, .int 24), (0, .ref 18), (1, .int _)] [] ((((pm_H0.set 1 (.inr (4, [.ref 2, .int 20]))).set 2 (.inl (0, 600, .inl _))).set 18 (.inr (9, pm_f9.set 4 (.int 17)))).set 21 (.inl (0, 600, .inl _))) _ _ _
  refine pm_e_inc (y := 16) pm_a48_33 rfl (by decide +kernel) (by decide +kernel) rfl ?_
  show pm_E _ _ _ 36 [(2, .int 16), (0, .ref 18), (1, .int _)] [] _ _ _ _
  refine pm_e_goto pm_a48_36 rfl ?_
  show pm_E _ _ _ 3 [(2, .int 16), (0, .ref 18), (1, .int _)] [] _ _ _ _
  refine pm_e_sim pm_a48_3 rfl ?_
  show pm_E _ _ _ 4 [(2, .int 16), (0, .ref 18), (1, .int _)] [.int 16] _ _ _ _
  refine pm_e_iff pm_a48_4 rfl (by decide +kernel) ?_
  show pm_E _ _ _ 7 [(2, .int 16), (0, .ref 18), (1, .int _)] [] _ _ _ _
  refine pm_e_sim pm_a48_7 rfl ?_
  show pm_E _ _ _ 8 [(2, .int 16), (0, .ref 18), (1, .int _)] [.ref 18] _ _ _ _
  refine pm_e_rd pm_a48_8 rfl rfl rfl ?_
  show pm_E _ _ _ 11 [(2, .int 16), (0, .ref 18), (1, .int _)] [.ref 21] _ _ _ _
  refine pm_e_sim pm_a48_11 rfl ?_
  show pm_E _ _ _ 12 [(2, .int 16), (0, .ref 18), (1, .int _)] [.ref 18, .ref 21] _ _ _ _
  refine pm_e_rd pm_a48_12 rfl rfl rfl ?_
  show pm_E _ _ _ 15 [(2, .int 16), (0, .ref 18), (1, .int _)] [.int 17, .ref 21] _ _ _ _
  refine pm_e_sim pm_a48_15 rfl ?_
  show pm_E _ _ _ 16 [(2, .int 16), (0, .ref 18), (1, .int _)] [.int _, .int 17, .ref 21] _ _ _ _
  refine pm_e_sim pm_a48_16 rfl ?_
  show pm_E _ _ _ 17 [(2, .int 16), (0, .ref 18), (1, .int _)] [.int 16, .int _, .int 17, .ref 21] _ _ _ _
  refine pm_e_sim pm_a48_17 rfl ?_
  show pm_E _ _ _ 18 [(2, .int 16), (0, .ref 18), (1, .int _)] [.int _, .int 17, .ref 21] _ _ _ _
  refine pm_e_sim pm_a48_18 rfl ?_
  refine pm_e_top (y := 255) (by decide +kernel) ?_
  show pm_E _ _ _ 21 [(2, .int 16), (0, .ref 18), (1, .int _)] [.int 255, .int _, .int 17, .ref 21] _ _ _ _
  refine pm_e_sim pm_a48_21 rfl ?_
  show pm_E _ _ _ 22 [(2, .int 16), (0, .ref 18), (1, .int _)] [.int _, .int 17, .ref 21] _ _ _ _
  refine pm_e_wr pm_a48_22 rfl rfl rfl rfl rfl ?_
  show pm_E _ _ _ 23 [(2, .int 16), (0, .ref 18), (1, .int _)] [] ((((pm_H0.set 1 (.inr (4, [.ref 2, .int 20]))).set 2 (.inl (0, 600, .inl _))).set 18 (.inr (9, pm_f9.set 4 (.int 17)))).set 21 (.inl (0, 600, .inl _))) _ _ _
  refine pm_e_sim pm_a48_23 rfl ?_
  show pm_E _ _ _ 24 [(2, .int 16), (0, .ref 18), (1, .int _)] [.ref 18] _ _ _ _
  refine pm_e_sim pm_a48_24 rfl ?_
  show pm_E _ _ _ 25 [(2, .int 16), (0, .ref 18), (1, .int _)] [.ref 18, .ref 18] _ _ _ _
  refine pm_e_rd pm_a48_25 rfl rfl rfl ?_
  show pm_E _ _ _ 28 [(2, .int 16), (0, .ref 18), (1, .int _)] [.int 17, .ref 18] _ _ _ _
  refine pm_e_sim pm_a48_28 rfl ?_
  refine pm_e_top (y := 1) (by decide +kernel) ?_
  show pm_E _ _ _ 29 [(2, .int 16), (0, .ref 18), (1, .int _)] [.int 1, .int 17, .ref 18] _ _ _ _
  refine pm_e_sim pm_a48_29 rfl ?_
  refine pm_e_top (y := 18) (by decide +kernel) ?_
  show pm_E _ _ _ 30 [(2, .int 16), (0, .ref 18), (1, .int _)] [.int 18, .ref 18] _ _ _ _
  refine pm_e_wr pm_a48_30 rfl rfl rfl rfl rfl ?_
  show pm_E _ _ _ 33 [(2, .int 16), (0, .ref 18), (1, .int _)] [] ((((pm_H0.set 1 (.inr (4, [.ref 2, .int 20]))).set 2 (.inl (0, 600, .inl _))).set 18 (.inr (9, pm_f9.set 4 (.int 18)))).set 21 (.inl (0, 600, .inl _))) _ _ _
  refine pm_e_inc (y := 8) pm_a48_33 rfl (by decide +kernel) (by decide +kernel) rfl ?_
  show pm_E _ _ _ 36 [(2, .int 8), (0, .ref 18), (1, .int _)] [] _ _ _ _
  refine pm_e_goto pm_a48_36 rfl ?_
  show pm_E _ _ _ 3 [(2, .int 8), (0, .ref 18), (1, .int _)] [] _ _ _ _
  refine pm_e_sim pm_a48_3 rfl ?_
  show pm_E _ _ _ 4 [(2, .int 8), (0, .ref 18), (1, .int _)] [.int 8] _ _ _ _
  refine pm_e_iff pm_a48_4 rfl (by decide +kernel) ?_
  show pm_E _ _ _ 7 [(2, .int 8), (0, .ref 18), (1, .int _)] [] _ _ _ _
  refine pm_e_sim pm_a48_7 rfl ?_
  show pm_E _ _ _ 8 [(2, .int 8), (0, .ref 18), (1, .int _)] [.ref 18] _ _ _ _
  refine pm_e_rd pm_a48_8 rfl rfl rfl ?_
  show pm_E _ _ _ 11 [(2, .int 8), (0, .ref 18), (1, .int _)] [.ref 21] _ _ _ _
  refine pm_e_sim pm_a48_11 rfl ?_
  show pm_E _ _ _ 12 [(2, .int 8), (0, .ref 18), (1, .int _)] [.ref 18, .ref 21] _ _ _ _
  refine pm_e_rd pm_a48_12 rfl rfl rfl ?_
  show pm_E _ _ _ 15 [(2, .int 8), (0, .ref 18), (1, .int _)] [.int 18, .ref 21] _ _ _ _
  refine pm_e_sim pm_a48_15 rfl ?_
  show pm_E _ _ _ 16 [(2, .int 8), (0, .ref 18), (1, .int _)] [.int _, .int 18, .ref 21] _ _ _ _
  refine pm_e_sim pm_a48_16 rfl ?_
  show pm_E _ _ _ 17 [(2, .int 8), (0, .ref 18), (1, .int _)] [.int 8, .int _, .int 18, .ref 21] _ _ _ _
  refine pm_e_sim pm_a48_17 rfl ?_
  show pm_E _ _ _ 18 [(2, .int 8), (0, .ref 18), (1, .int _)] [.int _, .int 18, .ref 21] _ _ _ _
  refine pm_e_sim pm_a48_18 rfl ?_
  refine pm_e_top (y := 255) (by decide +kernel) ?_
  show pm_E _ _ _ 21 [(2, .int 8), (0, .ref 18), (1, .int _)] [.int 255, .int _, .int 18, .ref 21] _ _ _ _
  refine pm_e_sim pm_a48_21 rfl ?_
  show pm_E _ _ _ 22 [(2, .int 8), (0, .ref 18), (1, .int _)] [.int _, .int 18, .ref 21] _ _ _ _
  refine pm_e_wr pm_a48_22 rfl rfl rfl rfl rfl ?_
  show pm_E _ _ _ 23 [(2, .int 8), (0, .ref 18), (1, .int _)] [] ((((pm_H0.set 1 (.inr (4, [.ref 2, .int 20]))).set 2 (.inl (0, 600, .inl _))).set 18 (.inr (9, pm_f9.set 4 (.int 18)))).set 21 (.inl (0, 600, .inl _))) _ _ _
  refine pm_e_sim pm_a48_23 rfl ?_
  show pm_E _ _ _ 24 [(2, .int 8), (0, .ref 18), (1, .int _)] [.ref 18] _ _ _ _
  refine pm_e_sim pm_a48_24 rfl ?_
  show pm_E _ _ _ 25 [(2, .int 8), (0, .ref 18), (1, .int _)] [.ref 18, .ref 18] _ _ _ _
  refine pm_e_rd pm_a48_25 rfl rfl rfl ?_
  show pm_E _ _ _ 28 [(2, .int 8), (0, .ref 18), (1, .int _)] [.int 18, .ref 18] _ _ _ _
  refine pm_e_sim pm_a48_28 rfl ?_
  refine pm_e_top (y := 1) (by decide +kernel) ?_
  show pm_E _ _ _ 29 [(2, .int 8), (0, .ref 18), (1, .int _)] [.int 1, .int 18, .ref 18] _ _ _ _
  refine pm_e_sim pm_a48_29 rfl ?_
  refine pm_e_top (y := 19) (by decide +kernel) ?_
  show pm_E _ _ _ 30 [(2, .int 8), (0, .ref 18), (1, .int _)] [.int 19, .ref 18] _ _ _ _
  refine pm_e_wr pm_a48_30 rfl rfl rfl rfl rfl ?_
  show pm_E _ _ _ 33 [(2, .int 8), (0, .ref 18), (1, .int _)] [] ((((pm_H0.set 1 (.inr (4, [.ref 2, .int 20]))).set 2 (.inl (0, 600, .inl _))).set 18 (.inr (9, pm_f9.set 4 (.int 19)))).set 21 (.inl (0, 600, .inl _))) _ _ _
  refine pm_e_inc (y := 0) pm_a48_33 rfl (by decide +kernel) (by decide +kernel) rfl ?_
  show pm_E _ _ _ 36 [(2, .int 0), (0, .ref 18), (1, .int _)] [] _ _ _ _
  refine pm_e_goto pm_a48_36 rfl ?_
  show pm_E _ _ _ 3 [(2, .int 0), (0, .ref 18), (1, .int _)] [] _ _ _ _
  refine pm_e_sim pm_a48_3 rfl ?_
  show pm_E _ _ _ 4 [(2, .int 0), (0, .ref 18), (1, .int _)] [.int 0] _ _ _ _
  refine pm_e_iff pm_a48_4 rfl (by decide +kernel) ?_
  show pm_E _ _ _ 7 [(2, .int 0), (0, .ref 18), (1, .int _)] [] _ _ _ _
  refine pm_e_sim pm_a48_7 rfl ?_
  show pm_E _ _ _ 8 [(2, .int 0), (0, .ref 18), (1, .int _)] [.ref 18] _ _ _ _
  refine pm_e_rd pm_a48_8 rfl rfl rfl ?_
  show pm_E _ _ _ 11 [(2, .int 0), (0, .ref 18), (1, .int _)] [.ref 21] _ _ _ _
  refine pm_e_sim pm_a48_11 rfl ?_
  show pm_E _ _ _ 12 [(2, .int 0), (0, .ref 18), (1, .int _)] [.ref 18, .ref 21] _ _ _ _
  refine pm_e_rd pm_a48_12 rfl rfl rfl ?_
  show pm_E _ _ _ 15 [(2, .int 0), (0, .ref 18), (1, .int _)] [.int 19, .ref 21] _ _ _ _
  refine pm_e_sim pm_a48_15 rfl ?_
  show pm_E _ _ _ 16 [(2, .int 0), (0, .ref 18), (1, .int _)] [.int _, .int 19, .ref 21] _ _ _ _
  refine pm_e_sim pm_a48_16 rfl ?_
  show pm_E _ _ _ 17 [(2, .int 0), (0, .ref 18), (1, .int _)] [.int 0, .int _, .int 19, .ref 21] _ _ _ _
  refine pm_e_sim pm_a48_17 rfl ?_
  show pm_E _ _ _ 18 [(2, .int 0), (0, .ref 18), (1, .int _)] [.int _, .int 19, .ref 21] _ _ _ _
  refine pm_e_sim pm_a48_18 rfl ?_
  refine pm_e_top (y := 255) (by decide +kernel) ?_
  show pm_E _ _ _ 21 [(2, .int 0), (0, .ref 18), (1, .int _)] [.int 255, .int _, .int 19, .ref 21] _ _ _ _
  refine pm_e_sim pm_a48_21 rfl ?_
  show pm_E _ _ _ 22 [(2, .int 0), (0, .ref 18), (1, .int _)] [.int _, .int 19, .ref 21] _ _ _ _
  refine pm_e_wr pm_a48_22 rfl rfl rfl rfl rfl ?_
  show pm_E _ _ _ 23 [(2, .int 0), (0, .ref 18), (1, .int _)] [] ((((pm_H0.set 1 (.inr (4, [.ref 2, .int 20]))).set 2 (.inl (0, 600, .inl _))).set 18 (.inr (9, pm_f9.set 4 (.int 19)))).set 21 (.inl (0, 600, .inl _))) _ _ _
  refine pm_e_sim pm_a48_23 rfl ?_
  show pm_E _ _ _ 24 [(2, .int 0), (0, .ref 18), (1, .int _)] [.ref 18] _ _ _ _
  refine pm_e_sim pm_a48_24 rfl ?_
  show pm_E _ _ _ 25 [(2, .int 0), (0, .ref 18), (1, .int _)] [.ref 18, .ref 18] _ _ _ _
  refine pm_e_rd pm_a48_25 rfl rfl rfl ?_
  show pm_E _ _ _ 28 [(2, .int 0), (0, .ref 18), (1, .int _)] [.int 19, .ref 18] _ _ _ _
  refine pm_e_sim pm_a48_28 rfl ?_
  refine pm_e_top (y := 1) (by decide +kernel) ?_
  show pm_E _ _ _ 29 [(2, .int 0), (0, .ref 18), (1, .int _)] [.int 1, .int 19, .ref 18] _ _ _ _
  refine pm_e_sim pm_a48_29 rfl ?_
  refine pm_e_top (y := 20) (by decide +kernel) ?_
  show pm_E _ _ _ 30 [(2, .int 0), (0, .ref 18), (1, .int _)] [.int 20, .ref 18] _ _ _ _
  refine pm_e_wr pm_a48_30 rfl rfl rfl rfl rfl ?_
  show pm_E _ _ _ 33 [(2, .int 0), (0, .ref 18), (1, .int _)] [] ((((pm_H0.set 1 (.inr (4, [.ref 2, .int 20]))).set 2 (.inl (0, 600, .inl _))).set 18 (.inr (9, pm_f9.set 4 (.int 20)))).set 21 (.inl (0, 600, .inl _))) _ _ _
  refine pm_e_inc (y := (-8)) pm_a48_33 rfl (by decide +kernel) (by decide +kernel) rfl ?_
  show pm_E _ _ _ 36 [(2, .int (-8)), (0, .ref 18), (1, .int _)] [] _ _ _ _
  refine pm_e_goto pm_a48_36 rfl ?_
  show pm_E _ _ _ 3 [(2, .int (-8)), (0, .ref 18), (1, .int _)] [] _ _ _ _
  refine pm_e_sim pm_a48_3 rfl ?_
  show pm_E _ _ _ 4 [(2, .int (-8)), (0, .ref 18), (1, .int _)] [.int (-8)] _ _ _ _
  refine pm_e_ift pm_a48_4 rfl (by decide +kernel) ?_
  show pm_E _ _ _ 39 [(2, .int (-8)), (0, .ref 18), (1, .int _)] [] _ _ _ _
  refine pm_e_ret pm_a48_39 rfl rfl rfl rfl rfl rfl rfl rfl ?_
  show pm_E _ _ _ 43 [(0, .ref 18), (1, .int _), (2, .int _), (3, .int _), (4, .int _), (5, .int _)] [] _ _ _ _
  refine pm_e_sim pm_a47_43 rfl ?_
  show pm_E _ _ _ 44 [(0, .ref 18), (1, .int _), (2, .int _), (3, .int _), (4, .int _), (5, .int _)] [.ref 18] _ _ _ _
  refine pm_e_rd pm_a47_44 rfl rfl rfl ?_
  show pm_E _ _ _ 47 [(0, .ref 18), (1, .int _), (2, .int _), (3, .int _), (4, .int _), (5, .int _)] [.int 20] _ _ _ _
  refine pm_e_ret pm_a47_47 rfl rfl rfl rfl rfl rfl rfl rfl ?_
  show pm_E _ _ _ 198 [(3, .int 0), (2, .ref 18), (1, .ref 0), (0, .retAddr 0)] [.int 20, .int 20] _ _ _ _
  refine pm_e_ict pm_a0_198 rfl (by decide +kernel) ?_
  show pm_E _ _ _ 779 [(3, .int 0), (2, .ref 18), (1, .ref 0), (0, .retAddr 0)] [] _ _ _ _
  refine pm_e_inc (y := 6) pm_a0_779 rfl (by decide +kernel) (by decide +kernel) rfl ?_
  show pm_E _ _ _ 782 [(3, .int 6), (2, .ref 18), (1, .ref 0), (0, .retAddr 0)] [] _ _ _ _
  refine pm_e_goto pm_a0_782 rfl ?_
  show pm_E _ _ _ 18 [(3, .int 6), (2, .ref 18), (1, .ref 0), (0, .retAddr 0)] [] _ _ _ _
  refine pm_e_sim pm_a0_18 rfl ?_
  show pm_E _ _ _ 19 [(3, .int 6), (2, .ref 18), (1, .ref 0), (0, .retAddr 0)] [.int 6] _ _ _ _
  refine pm_e_sim pm_a0_19 rfl ?_
  show pm_E _ _ _ 20 [(3, .int 6), (2, .ref 18), (1, .ref 0), (0, .retAddr 0)] [.retAddr 0, .int 6] _ _ _ _
  refine pm_e_rd pm_a0_20 rfl rfl rfl ?_
  dsimp only
  refine pm_e_top (y := 6) (by decide +kernel) ?_
  show pm_E _ _ _ 21 [(3, .int 6), (2, .ref 18), (1, .ref 0), (0, .retAddr 0)] [.int 6, .int 6] _ _ _ _
  refine pm_e_sim pm_a0_21 rfl ?_
  refine pm_e_top (y := 6) (by decide +kernel) ?_
  show pm_E _ _ _ 23 [(3, .int 6), (2, .ref 18), (1, .ref 0), (0, .retAddr 0)] [.int 6, .int 6, .int 6] _ _ _ _
  refine pm_e_sim pm_a0_23 rfl ?_
  refine pm_e_top (y := 0) (by decide +kernel) ?_
  show pm_E _ _ _ 24 [(3, .int 6), (2, .ref 18), (1, .ref 0), (0, .retAddr 0)] [.int 0, .int 6] _ _ _ _
  refine pm_e_ict pm_a0_24 rfl (by decide +kernel) ?_
  show pm_E _ _ _ 785 [(3, .int 6), (2, .ref 18), (1, .ref 0), (0, .retAddr 0)] [] _ _ _ _
  refine pm_e_sim pm_a0_785 rfl ?_
  refine pm_e_top (y := 1) (by decide +kernel) ?_
  show pm_E _ _ _ 786 [(3, .int 6), (2, .ref 18), (1, .ref 0), (0, .retAddr 0)] [.int 1] _ _ _ _
  refine pm_e_ret pm_a0_786 rfl rfl rfl rfl rfl rfl rfl rfl ?_
  exact hQ _ _ _ (by decide +kernel) (by decide +kernel)
