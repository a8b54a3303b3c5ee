/-! one call on a fresh object -/
set_option maxHeartbeats 40000000 in
set_option maxRecDepth 200000 in
theorem pm_op24 (xs : Nat → Int32) {Q : Option Value → List va_E → Nat → Nat → Prop} (hQ : ∀ ph c n, c ≤ 600000 → n ≤ 7302250 → Q (some (.int 1)) ph c n) : pm_E (some (6, xs)) 11 pm_mm0 33 pm_L0 [.int (nI 24)] pm_H0 50 194358 Q := by
  refine pm_e_top (y := 24) (by decide +kernel) ?_
  refine pm_e_tsi (t := 779) pm_a0_33 rfl (by decide +kernel) ?_
  show pm_E _ _ _ 779 [(3, .int 0), (2, .ref 18), (1, .ref 0), (0, .retAddr 0)] [] _ _ _ _
  refine pm_e_inc (y := 6) pm_a0_779 rfl (by decide +kernel) (by decide +kernel) rfl ?_
  show pm_E _ _ _ 782 [(3, .int 6), (2, .ref 18), (1, .ref 0), (0, .retAddr 0)] [] _ _ _ _
  refine pm_e_goto pm_a0_782 rfl ?_
  show pm_E _ _ _ 18 [(3, .int 6), (2, .ref 18), (1, .ref 0), (0, .retAddr 0)] [] _ _ _ _
  refine pm_e_sim pm_a0_18 rfl ?_
  show pm_E _ _ _ 19 [(3, .int 6), (2, .ref 18), (1, .ref 0), (0, .retAddr 0)] [.int 6] _ _ _ _
  refine pm_e_sim pm_a0_19 rfl ?_
  show pm_E _ _ _ 20 [(3, .int 6), (2, .ref 18), (1, .ref 0), (0, .retAddr 0)] [.retAddr 0, .int 6] _ _ _ _
  refine pm_e_rd pm_a0_20 rfl rfl rfl ?_
  dsimp only
  refine pm_e_top (y := 6) (by decide +kernel) ?_
  show pm_E _ _ _ 21 [(3, .int 6), (2, .ref 18), (1, .ref 0), (0, .retAddr 0)] [.int 6, .int 6] _ _ _ _
  refine pm_e_sim pm_a0_21 rfl ?_
  refine pm_e_top (y := 6) (by decide +kernel) ?_
  show pm_E _ _ _ 23 [(3, .int 6), (2, .ref 18), (1, .ref 0), (0, .retAddr 0)] [.int 6, .int 6, .int 6] _ _ _ _
  refine pm_e_sim pm_a0_23 rfl ?_
  refine pm_e_top (y := 0) (by decide +kernel) ?_
  show pm_E _ _ _ 24 [(3, .int 6), (2, .ref 18), (1, .ref 0), (0, .retAddr 0)] [.int 0, .int 6] _ _ _ _
  refine pm_e_ict pm_a0_24 rfl (by decide +kernel) ?_
  show pm_E _ _ _ 785 [(3, .int 6), (2, .ref 18), (1, .ref 0), (0, .retAddr 0)] [] _ _ _ _
  refine pm_e_sim pm_a0_785 rfl ?_
  refine pm_e_top (y := 1) (by decide +kernel) ?_
  show pm_E _ _ _ 786 [(3, .int 6), (2, .ref 18), (1, .ref 0), (0, .retAddr 0)] [.int 1] _ _ _ _
  refine pm_e_ret pm_a0_786 rfl rfl rfl rfl rfl rfl rfl rfl ?_
  exact hQ _ _ _ (by decide +kernel) (by decide +kernel)
set_option maxHeartbeats 40000000 in
set_option maxRecDepth 200000 in
theorem pm_op25 (xs : Nat → Int32) {Q : Option Value → List va_E → Nat → Nat → Prop} (hQ : ∀ ph c n, c ≤ 600000 → n ≤ 7302250 → Q (some (.int 1)) ph c n) : pm_E (some (6, xs)) 11 pm_mm0 33 pm_L0 [.int (nI 25)] pm_H0 50 194358 Q := by
  refine pm_e_top (y := 25) (by decide +kernel) ?_
  refine pm_e_tsi (t := 779) pm_a0_33 rfl (by decide +kernel) ?_
  show pm_E _ _ _ 779 [(3, .int 0), (2, .ref 18), (1, .ref 0), (0, .retAddr 0)] [] _ _ _ _
  refine pm_e_inc (y := 6) pm_a0_779 rfl (by decide +kernel) (by decide +kernel) rfl ?_
  show pm_E _ _ _ 782 [(3, .int 6), (2, .ref 18), (1, .ref 0), (0, .retAddr 0)] [] _ _ _ _
  refine pm_e_goto pm_a0_782 rfl ?_
  show pm_E _ _ _ 18 [(3, .int 6), (2, .ref 18), (1, .ref 0), (0, .retAddr 0)] [] _ _ _ _
  refine pm_e_sim pm_a0_18 rfl ?_
  show pm_E _ _ _ 19 [(3, .int 6), (2, .ref 18), (1, .ref 0), (0, .retAddr 0)] [.int 6] _ _ _ _
  refine pm_e_sim pm_a0_19 rfl ?_
  show pm_E _ _ _ 20 [(3, .int 6), (2, .ref 18), (1, .ref 0), (0, .retAddr 0)] [.retAddr 0, .int 6] _ _ _ _
  refine pm_e_rd pm_a0_20 rfl rfl rfl ?_
  dsimp only
  refine pm_e_top (y := 6) (by decide +kernel) ?_
  show pm_E _ _ _ 21 [(3, .int 6), (2, .ref 18), (1, .ref 0), (0, .retAddr 0)] [.int 6, .int 6] _ _ _ _
  refine pm_e_sim pm_a0_21 rfl ?_
  refine pm_e_top (y := 6) (by decide +kernel) ?_
  show pm_E _ _ _ 23 [(3, .int 6), (2, .ref 18), (1, .ref 0), (0, .retAddr 0)] [.int 6, .int 6, .int 6] _ _ _ _
  refine pm_e_sim pm_a0_23 rfl ?_
  refine pm_e_top (y := 0) (by decide +kernel) ?_
  show pm_E _ _ _ 24 [(3, .int 6), (2, .ref 18), (1, .ref 0), (0, .retAddr 0)] [.int 0, .int 6] _ _ _ _
  refine pm_e_ict pm_a0_24 rfl (by decide +kernel) ?_
  show pm_E _ _ _ 785 [(3, .int 6), (2, .ref 18), (1, .ref 0), (0, .retAddr 0)] [] _ _ _ _
  refine pm_e_sim pm_a0_785 rfl ?_
  refine pm_e_top (y := 1) (by decide +kernel) ?_
  show pm_E _ _ _ 786 [(3, .int 6), (2, .ref 18), (1, .ref 0), (0, .retAddr 0)] [.int 1] _ _ _ _
  refine pm_e_ret pm_a0_786 rfl rfl rfl rfl rfl rfl rfl rfl ?_
  exact hQ _ _ _ (by decide +kernel) (by decide +kernel)
set_option maxHeartbeats 40000000 in
set_option maxRecDepth 200000 in
theorem pm_op26 (xs : Nat → Int32) {Q : Option Value → List va_E → Nat → Nat → Prop} (hQ : ∀ ph c n, c ≤ 600000 → n ≤ 7302250 → Q (some (.int 1)) ph c n) : pm_E (some (6, xs)) 11 pm_mm0 33 pm_L0 [.int (nI 26)] pm_H0 50 194358 Q := by
  refine pm_e_top (y := 26) (by decide +kernel) ?_
  refine pm_e_tsi (t := 779) pm_a0_33 rfl (by decide +kernel) ?_
  show pm_E _ _ _ 779 [(3, .int 0), (2, .ref 18), (1, .ref 0), (0, .retAddr 0)] [] _ _ _ _
  refine pm_e_inc (y := 6) pm_a0_779 rfl (by decide +kernel) (by decide +kernel) rfl ?_
  show pm_E _ _ _ 782 [(3, .int 6), (2, .ref 18), (1, .ref 0), (0, .retAddr 0)] [] _ _ _ _
  refine pm_e_goto pm_a0_782 rfl ?_
  show pm_E _ _ _ 18 [(3, .int 6), (2, .ref 18), (1, .ref 0), (0, .retAddr 0)] [] _ _ _ _
  refine pm_e_sim pm_a0_18 rfl ?_
  show pm_E _ _ _ 19 [(3, .int 6), (2, .ref 18), (1, .ref 0), (0, .retAddr 0)] [.int 6] _ _ _ _
  refine pm_e_sim pm_a0_19 rfl ?_
  show pm_E _ _ _ 20 [(3, .int 6), (2, .ref 18), (1, .ref 0), (0, .retAddr 0)] [.retAddr 0, .int 6] _ _ _ _
  refine pm_e_rd pm_a0_20 rfl rfl rfl ?_
  dsimp only
  refine pm_e_top (y := 6) (by decide +kernel) ?_
  show pm_E _ _ _ 21 [(3, .int 6), (2, .ref 18), (1, .ref 0), (0, .retAddr 0)] [.int 6, .int 6] _ _ _ _
  refine pm_e_sim pm_a0_21 rfl ?_
  refine pm_e_top (y := 6) (by decide +kernel) ?_
  show pm_E _ _ _ 23 [(3, .int 6), (2, .ref 18), (1, .ref 0), (0, .retAddr 0)] [.int 6, .int 6, .int 6] _ _ _ _
  refine pm_e_sim pm_a0_23 rfl ?_
  refine pm_e_top (y := 0) (by decide +kernel) ?_
  show pm_E _ _ _ 24 [(3, .int 6), (2, .ref 18), (1, .ref 0), (0, .retAddr 0)] [.int 0, .int 6] _ _ _ _
  refine pm_e_ict pm_a0_24 rfl (by decide +kernel) ?_
  show pm_E _ _ _ 785 [(3, .int 6), (2, .ref 18), (1, .ref 0), (0, .retAddr 0)] [] _ _ _ _
  refine pm_e_sim pm_a0_785 rfl ?_
  refine pm_e_top (y := 1) (by decide +kernel) ?_
  show pm_E _ _ _ 786 [(3, .int 6), (2, .ref 18), (1, .ref 0), (0, .retAddr 0)] [.int 1] _ _ _ _
  refine pm_e_ret pm_a0_786 rfl rfl rfl rfl rfl rfl rfl rfl ?_
  exact hQ _ _ _ (by decide +kernel) (by decide +kernel)
set_option maxHeartbeats 40000000 in
set_option maxRecDepth 200000 in
theorem pm_op27 (xs : Nat → Int32) {Q : Option Value → List va_E → Nat → Nat → Prop} (hQ : ∀ ph c n, c ≤ 600000 → n ≤ 7302250 → Q (some (.int 1)) ph c n) : pm_E (some (6, xs)) 11 pm_mm0 33 pm_L0 [.int (nI 27)] pm_H0 50 194358 Q := by
  refine pm_e_top (y := 27) (by decide +kernel) ?_
  refine pm_e_tsi (t := 779) pm_a0_33 rfl (by decide +kernel) ?_
  show pm_E _ _ _ 779 [(3, .int 0), (2, .ref 18), (1, .ref 0), (0, .retAddr 0)] [] _ _ _ _
  refine pm_e_inc (y := 6) pm_a0_779 rfl (by decide +kernel) (by decide +kernel) rfl ?_
  show pm_E _ _ _ 782 [(3, .int 6), (2, .ref 18), (1, .ref 0), (0, .retAddr 0)] [] _ _ _ _
  refine pm_e_goto pm_a0_782 rfl ?_
  show pm_E _ _ _ 18 [(3, .int 6), (2, .ref 18), (1, .ref 0), (0, .retAddr 0)] [] _ _ _ _
  refine pm_e_sim pm_a0_18 rfl ?_
  show pm_E _ _ _ 19 [(3, .int 6), (2, .ref 18), (1, .ref 0), (0, .retAddr 0)] [.int 6] _ _ _ _
  refine pm_e_sim pm_a0_19 rfl ?_
  show pm_E _ _ _ 20 [(3, .int 6), (2, .ref 18), (1, .ref 0), (0, .retAddr 0)] [.retAddr 0, .int 6] _ _ _ _
  refine pm_e_rd pm_a0_20 rfl rfl rfl ?_
  dsimp only
  refine pm_e_top (y := 6) (by decide +kernel) ?_
  show pm_E _ _ _ 21 [(3, .int 6), (2, .ref 18), (1, .ref 0), (0, .retAddr 0)] [.int 6, .int 6] _ _ _ _
  refine pm_e_sim pm_a0_21 rfl ?_
  refine pm_e_top (y := 6) (by decide +kernel) ?_
  show pm_E _ _ _ 23 [(3, .int 6), (2, .ref 18), (1, .ref 0), (0, .retAddr 0)] [.int 6, .int 6, .int 6] _ _ _ _
  refine pm_e_sim pm_a0_23 rfl ?_
  refine pm_e_top (y := 0) (by decide +kernel) ?_
  show pm_E _ _ _ 24 [(3, .int 6), (2, .ref 18), (1, .ref 0), (0, .retAddr 0)] [.int 0, .int 6] _ _ _ _
  refine pm_e_ict pm_a0_24 rfl (by decide +kernel) ?_
  show pm_E _ _ _ 785 [(3, .int 6), (2, .ref 18), (1, .ref 0), (0, .retAddr 0)] [] _ _ _ _
  refine pm_e_sim pm_a0_785 rfl ?_
  refine pm_e_top (y := 1) (by decide +kernel) ?_
  show pm_E _ _ _ 786 [(3, .int 6), (2, .ref 18), (1, .ref 0), (0, .retAddr 0)] [.int 1] _ _ _ _
  refine pm_e_ret pm_a0_786 rfl rfl rfl rfl rfl rfl rfl rfl ?_
  exact hQ _ _ _ (by decide +kernel) (by decide +kernel)
set_option maxHeartbeats 40000000 in
set_option maxRecDepth 200000 in
theorem pm_op28 (xs : Nat → Int32) {Q : Option Value → List va_E → Nat → Nat → Prop} (hQ : ∀ ph c n, c ≤ 600000 → n ≤ 7302250 → Q (some (.int 1)) ph c n) : pm_E (some (6, xs)) 11 pm_mm0 33 pm_L0 [.int (nI 28)] pm_H0 50 194358 Q := by
  refine pm_e_top (y := 28) (by decide +kernel) ?_
  refine pm_e_tsi (t := 779) pm_a0_33 rfl (by decide +kernel) ?_
  show pm_E _ _ _ 779 [(3, .int 0), (2, .ref 18), (1, .ref 0), (0, .retAddr 0)] [] _ _ _ _
  refine pm_e_inc (y := 6) pm_a0_779 rfl (by decide +kernel) (by decide +kernel) rfl ?_
  show pm_E _ _ _ 782 [(3, .int 6), (2, .ref 18), (1, .ref 0), (0, .retAddr 0)] [] _ _ _ _
  refine pm_e_goto pm_a0_782 rfl ?_
  show pm_E _ _ _ 18 [(3, .int 6), (2, .ref 18), (1, .ref 0), (0, .retAddr 0)] [] _ _ _ _
  refine pm_e_sim pm_a0_18 rfl ?_
  show pm_E _ _ _ 19 [(3, .int 6), (2, .ref 18), (1, .ref 0), (0, .retAddr 0)] [.int 6] _ _ _ _
  refine pm_e_sim pm_a0_19 rfl ?_
  show pm_E _ _ _ 20 [(3, .int 6), (2, .ref 18), (1, .ref 0), (0, .retAddr 0)] [.retAddr 0, .int 6] _ _ _ _
  refine pm_e_rd pm_a0_20 rfl rfl rfl ?_
  dsimp only
  refine pm_e_top (y := 6) (by decide +kernel) ?_
  show pm_E _ _ _ 21 [(3, .int 6), (2, .ref 18), (1, .ref 0), (0, .retAddr 0)] [.int 6, .int 6] _ _ _ _
  refine pm_e_sim pm_a0_21 rfl ?_
  refine pm_e_top (y := 6) (by decide +kernel) ?_
  show pm_E _ _ _ 23 [(3, .int 6), (2, .ref 18), (1, .ref 0), (0, .retAddr 0)] [.int 6, .int 6, .int 6] _ _ _ _
  refine pm_e_sim pm_a0_23 rfl ?_
  refine pm_e_top (y := 0) (by decide +kernel) ?_
  show pm_E _ _ _ 24 [(3, .int 6), (2, .ref 18), (1, .ref 0), (0, .retAddr 0)] [.int 0, .int 6] _ _ _ _
  refine pm_e_ict pm_a0_24 rfl (by decide +kernel) ?_
  show pm_E _ _ _ 785 [(3, .int 6), (2, .ref 18), (1, .ref 0), (0, .retAddr 0)] [] _ _ _ _
  refine pm_e_sim pm_a0_785 rfl ?_
  refine pm_e_top (y := 1) (by decide +kernel) ?_
  show pm_E _ _ _ 786 [(3, .int 6), (2, .ref 18), (1, .ref 0), (0, .retAddr 0)] [.int 1] _ _ _ _
  refine pm_e_ret pm_a0_786 rfl rfl rfl rfl rfl rfl rfl rfl ?_
  exact hQ _ _ _ (by decide +kernel) (by decide +kernel)
set_option maxHeartbeats 40000000 in
set_option maxRecDepth 200000 in
theorem pm_op29 (xs : Nat → Int32) {Q : Option Value → List va_E → Nat → Nat → Prop} (hQ : ∀ ph c n, c ≤ 600000 → n ≤ 7302250 → Q (some (.int 1)) ph c n) : pm_E (some (6, xs)) 11 pm_mm0 33 pm_L0 [.int (nI 29)] pm_H0 50 194358 Q := by
  refine pm_e_top (y := 29) (by decide +kernel) ?_
  refine pm_e_tsi (t := 779) pm_a0_33 rfl (by decide +kernel) ?_
  show pm_E _ _ _ 779 [(3, .int 0), (2, .ref 18), (1, .ref 0), (0, .retAddr 0)] [] _ _ _ _
  refine pm_e_inc (y := 6) pm_a0_779 rfl (by decide +kernel) (by decide +kernel) rfl ?_
  show pm_E _ _ _ 782 [(3, .int 6), (2, .ref 18), (1, .ref 0), (0, .retAddr 0)] [] _ _ _ _
  refine pm_e_goto pm_a0_782 rfl ?_
  show pm_E _ _ _ 18 [(3, .int 6), (2, .ref 18), (1, .ref 0), (0, .retAddr 0)] [] _ _ _ _
  refine pm_e_sim pm_a0_18 rfl ?_
  show pm_E _ _ _ 19 [(3, .int 6), (2, .ref 18), (1, .ref 0), (0, .retAddr 0)] [.int 6] _ _ _ _
  refine pm_e_sim pm_a0_19 rfl ?_
  show pm_E _ _ _ 20 [(3, .int 6), (2, .ref 18), (1, .ref 0), (0, .retAddr 0)] [.retAddr 0, .int 6] _ _ _ _
  refine pm_e_rd pm_a0_20 rfl rfl rfl ?_
  dsimp only
  refine pm_e_top (y := 6) (by decide +kernel) ?_
  show pm_E _ _ _ 21 [(3, .int 6), (2, .ref 18), (1, .ref 0), (0, .retAddr 0)] [.int 6, .int 6] _ _ _ _
  refine pm_e_sim pm_a0_21 rfl ?_
  refine pm_e_top (y := 6) (by decide +kernel) ?_
  show pm_E _ _ _ 23 [(3, .int 6), (2, .ref 18), (1, .ref 0), (0, .retAddr 0)] [.int 6, .int 6, .int 6] _ _ _ _
  refine pm_e_sim pm_a0_23 rfl ?_
  refine pm_e_top (y := 0) (by decide +kernel) ?_
  show pm_E _ _ _ 24 [(3, .int 6), (2, .ref 18), (1, .ref 0), (0, .retAddr 0)] [.int 0, .int 6] _ _ _ _
  refine pm_e_ict pm_a0_24 rfl (by decide +kernel) ?_
  show pm_E _ _ _ 785 [(3, .int 6), (2, .ref 18), (1, .ref 0), (0, .retAddr 0)] [] _ _ _ _
  refine pm_e_sim pm_a0_785 rfl ?_
  refine pm_e_top (y := 1) (by decide +kernel) ?_
  show pm_E _ _ _ 786 [(3, .int 6), (2, .ref 18), (1, .ref 0), (0, .retAddr 0)] [.int 1] _ _ _ _
  refine pm_e_ret pm_a0_786 rfl rfl rfl rfl rfl rfl rfl rfl ?_
  exact hQ _ _ _ (by decide +kernel) (by decide +kernel)
set_option maxHeartbeats 40000000 in
set_option maxRecDepth 200000 in
theorem pm_op30 (xs : Nat → Int32) {Q : Option Value → List va_E → Nat → Nat → Prop} (hQ : ∀ ph c n, c ≤ 600000 → n ≤ 7302250 → Q (some (.int 1)) ph c n) : pm_E (some (6, xs)) 11 pm_mm0 33 pm_L0 [.int (nI 30)] pm_H0 50 194358 Q := by
  refine pm_e_top (y := 30) (by decide +kernel) ?_
  refine pm_e_tsi (t := 779) pm_a0_33 rfl (by decide +kernel) ?_
  show pm_E _ _ _ 779 [(3, .int 0), (2, .ref 18), (1, .ref 0), (0, .retAddr 0)] [] _ _ _ _
  refine pm_e_inc (y := 6) pm_a0_779 rfl (by decide +kernel) (by decide +kernel) rfl ?_
  show pm_E _ _ _ 782 [(3, .int 6), (2, .ref 18), (1, .ref 0), (0, .retAddr 0)] [] _ _ _ _
  refine pm_e_goto pm_a0_782 rfl ?_
  show pm_E _ _ _ 18 [(3, .int 6), (2, .ref 18), (1, .ref 0), (0, .retAddr 0)] [] _ _ _ _
  refine pm_e_sim pm_a0_18 rfl ?_
  show pm_E _ _ _ 19 [(3, .int 6), (2, .ref 18), (1, .ref 0), (0, .retAddr 0)] [.int 6] _ _ _ _
  refine pm_e_sim pm_a0_19 rfl ?_
  show pm_E _ _ _ 20 [(3, .int 6), (2, .ref 18), (1, .ref 0), (0, .retAddr 0)] [.retAddr 0, .int 6] _ _ _ _
  refine pm_e_rd pm_a0_20 rfl rfl rfl ?_
  dsimp only
  refine pm_e_top (y := 6) (by decide +kernel) ?_
  show pm_E _ _ _ 21 [(3, .int 6), (2, .ref 18), (1, .ref 0), (0, .retAddr 0)] [.int 6, .int 6] _ _ _ _
  refine pm_e_sim pm_a0_21 rfl ?_
  refine pm_e_top (y := 6) (by decide +kernel) ?_
  show pm_E _ _ _ 23 [(3, .int 6), (2, .ref 18), (1, .ref 0), (0, .retAddr 0)] [.int 6, .int 6, .int 6] _ _ _ _
  refine pm_e_sim pm_a0_23 rfl ?_
  refine pm_e_top (y := 0) (by decide +kernel) ?_
  show pm_E _ _ _ 24 [(3, .int 6), (2, .ref 18), (1, .ref 0), (0, .retAddr 0)] [.int 0, .int 6] _ _ _ _
  refine pm_e_ict pm_a0_24 rfl (by decide +kernel) ?_
  show pm_E _ _ _ 785 [(3, .int 6), (2, .ref 18), (1, .ref 0), (0, .retAddr 0)] [] _ _ _ _
  refine pm_e_sim pm_a0_785 rfl ?_
  refine pm_e_top (y := 1) (by decide +kernel) ?_
  show pm_E _ _ _ 786 [(3, .int 6), (2, .ref 18), (1, .ref 0), (0, .retAddr 0)] [.int 1] _ _ _ _
  refine pm_e_ret pm_a0_786 rfl rfl rfl rfl rfl rfl rfl rfl ?_
  exact hQ _ _ _ (by decide +kernel) (by decide +kernel)
set_option maxHeartbeats 40000000 in
set_option maxRecDepth 200000 in
theorem pm_op31 (xs : Nat → Int32) {Q : Option Value → List va_E → Nat → Nat → Prop} (hQ : ∀ ph c n, c ≤ 600000 → n ≤ 7302250 → Q (some (.int 1)) ph c n) : pm_E (some (6, xs)) 11 pm_mm0 33 pm_L0 [.int (nI 31)] pm_H0 50 194358 Q := by
  refine pm_e_top (y := 31) (by decide +kernel) ?_
  refine pm_e_tsi (t := 779) pm_a0_33 rfl (by decide +kernel) ?_
  show pm_E _ _ _ 779 [(3, .int 0), (2, .ref 18), (1, .ref 0), (0, .retAddr 0)] [] _ _ _ _
  refine pm_e_inc (y := 6) pm_a0_779 rfl (by decide +kernel) (by decide +kernel) rfl ?_
  show pm_E _ _ _ 782 [(3, .int 6), (2, .ref 18), (1, .ref 0), (0, .retAddr 0)] [] _ _ _ _
  refine pm_e_goto pm_a0_782 rfl ?_
  show pm_E _ _ _ 18 [(3, .int 6), (2, .ref 18), (1, .ref 0), (0, .retAddr 0)] [] _ _ _ _
  refine pm_e_sim pm_a0_18 rfl ?_
  show pm_E _ _ _ 19 [(3, .int 6), (2, .ref 18), (1, .ref 0), (0, .retAddr 0)] [.int 6] _ _ _ _
  refine pm_e_sim pm_a0_19 rfl ?_
  show pm_E _ _ _ 20 [(3, .int 6), (2, .ref 18), (1, .ref 0), (0, .retAddr 0)] [.retAddr 0, .int 6] _ _ _ _
  refine pm_e_rd pm_a0_20 rfl rfl rfl ?_
  dsimp only
  refine pm_e_top (y := 6) (by decide +kernel) ?_
  show pm_E _ _ _ 21 [(3, .int 6), (2, .ref 18), (1, .ref 0), (0, .retAddr 0)] [.int 6, .int 6] _ _ _ _
  refine pm_e_sim pm_a0_21 rfl ?_
  refine pm_e_top (y := 6) (by decide +kernel) ?_
  show pm_E _ _ _ 23 [(3, .int 6), (2, .ref 18), (1, .ref 0), (0, .retAddr 0)] [.int 6, .int 6, .int 6] _ _ _ _
  refine pm_e_sim pm_a0_23 rfl ?_
  refine pm_e_top (y := 0) (by decide +kernel) ?_
  show pm_E _ _ _ 24 [(3, .int 6), (2, .ref 18), (1, .ref 0), (0, .retAddr 0)] [.int 0, .int 6] _ _ _ _
  refine pm_e_ict pm_a0_24 rfl (by decide +kernel) ?_
  show pm_E _ _ _ 785 [(3, .int 6), (2, .ref 18), (1, .ref 0), (0, .retAddr 0)] [] _ _ _ _
  refine pm_e_sim pm_a0_785 rfl ?_
  refine pm_e_top (y := 1) (by decide +kernel) ?_
  show pm_E _ _ _ 786 [(3, .int 6), (2, .ref 18), (1, .ref 0), (0, .retAddr 0)] [.int 1] _ _ _ _
  refine pm_e_ret pm_a0_786 rfl rfl rfl rfl rfl rfl rfl rfl ?_
  exact hQ _ _ _ (by decide +kernel) (by decide +kernel)
