/-! THE CLASS: Typer, exactly: nodes and what solves them: any, arrow, letters -/
theorem C_zanyT {d n : Nat} {kd pl : Nat → Nat} {s : Nat → Int} {a : Nat → Int → Int} {c : Nat → cdt} {M : List va_E} {Q : Option Value → List va_E → Nat → Nat → Prop} {rt : Int → Int} (hW : wf n kd pl) (h203 : al n kd pl 203) (hG : GC (s 20) (a 9) (a 10) (a 11) rt) (h1 : s 20 < 2800) (k : ∀ s' a' rt', GC (s' 20) (a' 9) (a' 10) (a' 11) rt' → s' 20 = s 20 + 1 → opA (SOL (s 20) (-1) (a 9) (a 10) rt) (SOL (s' 20) (-1) (a' 9) (a' 10) rt') (s 20) → (∀ j, j ≠ 20 → s' j = s j) → (∀ j, j ≠ 9 → j ≠ 10 → j ≠ 11 → a' j = a j) → Q (some (.int (iI (s 20)))) (ch n kd pl s' a' c M) 0 0) : pm_E none (d + 2) pm_mm112 0 [(0, .ref (pl 203))] [] (ch n kd pl s a c M) 0 0 Q := by
  refine C_zany hW h203 hG.2.1 h1 ?_
  obtain ⟨g1, g2⟩ := GC_any hG
  exact k _ _ _ g1 rfl g2 (fun j h => by simp [updS, h]) (fun j h1 h2 h3 => by simp [updA, h1, h2, h3])
theorem C_zarrowT {d n : Nat} {kd pl : Nat → Nat} {s : Nat → Int} {a : Nat → Int → Int} {c : Nat → cdt} {M : List va_E} {Q : Option Value → List va_E → Nat → Nat → Prop} {x y : Int} {rt : Int → Int} (hW : wf n kd pl) (h203 : al n kd pl 203) (hG : GC (s 20) (a 9) (a 10) (a 11) rt) (h1 : s 20 < 2800) (hx : 0 ≤ x ∧ x < s 20) (hy : 0 ≤ y ∧ y < s 20) (k : ∀ s' a' rt', GC (s' 20) (a' 9) (a' 10) (a' 11) rt' → s' 20 = s 20 + 1 → opR (SOL (s 20) (-1) (a 9) (a 10) rt) (SOL (s' 20) (-1) (a' 9) (a' 10) rt') (s 20) x y → (∀ j, j ≠ 20 → s' j = s j) → (∀ j, j ≠ 9 → j ≠ 10 → j ≠ 11 → a' j = a j) → Q (some (.int (iI (s 20)))) (ch n kd pl s' a' c M) 0 0) : pm_E none (d + 1) pm_mm113 0 [(0, .ref (pl 203)), (1, .int (iI x)), (2, .int (iI y))] [] (ch n kd pl s a c M) 0 0 Q := by
  refine C_zarrow hW h203 hG.2.1 h1 ?_
  obtain ⟨g1, g2⟩ := GC_arrow hG hx hy
  exact k _ _ _ g1 rfl g2 (fun j h => by simp [updS, h]) (fun j h1 h2 h3 => by simp [updA, h1, h2, h3])
set_option maxHeartbeats 4000000 in
set_option maxRecDepth 100000 in
theorem C_ztypeOfI {d n : Nat} {kd pl : Nat → Nat} {s : Nat → Int} {a : Nat → Int → Int} {c : Nat → cdt} {M : List va_E} {Q : Option Value → List va_E → Nat → Nat → Prop} {x : Int} {rt : Int → Int} (hW : wf n kd pl) (h203 : al n kd pl 203) (hG : GC (s 20) (a 9) (a 10) (a 11) rt) (h1 : s 20 < 2790) (hx : 0 ≤ x ∧ x < s 20) (k : ∀ s' a' rt', GC (s' 20) (a' 9) (a' 10) (a' 11) rt' → s' 20 = s 20 + 1 → opR (SOL (s 20) (-1) (a 9) (a 10) rt) (SOL (s' 20) (-1) (a' 9) (a' 10) rt') (s 20) x x → (∀ j, j ≠ 20 → s' j = s j) → (∀ j, j ≠ 9 → j ≠ 10 → j ≠ 11 → a' j = a j) → Q (some (.int (iI (s 20)))) (ch n kd pl s' a' c M) 0 0) : pm_E none (d + 2) pm_mm129 0 [(0, .ref (pl 203)), (1, .int (iI x))] [] (ch n kd pl s a c M) 0 0 Q := by
  have hK := hG.2.1
  refine pm_e_sim pm_a129_0 rfl ?_
  show pm_E _ _ _ 1 [(0, .ref (pl 203)), (1, .int (iI x))] [.ref (pl 203)] _ _ _ _
  refine pm_e_sim pm_a129_1 rfl ?_
  show pm_E _ _ _ 2 [(0, .ref (pl 203)), (1, .int (iI x))] [.int (iI x), .ref (pl 203)] _ _ _ _
  refine pm_e_sim pm_a129_2 rfl ?_
  show pm_E _ _ _ 3 [(0, .ref (pl 203)), (1, .int (iI x))] [.int (iI x), .int (iI x), .ref (pl 203)] _ _ _ _
  refine pm_i_callv (k := (pl 203)) (T2 := pm_mm113) pm_a129_3 rfl rfl rfl (cg_203 hW h203) ⟨Nat.le_of_ble_eq_true rfl, Nat.le_of_ble_eq_true rfl, rfl, by decide +kernel⟩ ?_
  show pm_E none _ _ 0 [(0, .ref (pl 203)), (1, .int (iI x)), (2, .int (iI x))] [] _ _ _ _
  refine C_zarrowT hW h203 hG (by omega) ⟨by omega, by omega⟩ ⟨by omega, by omega⟩ (fun s1_ a1_ rt1 hG1 eK1 tO1 gs1 ga1 => ?_)
  have fs1 := gs1
  have fa1 := ga1
  have hK1 := hG1.2.1
  show pm_E _ _ _ 6 [(0, .ref (pl 203)), (1, .int (iI x))] [.int (iI (s 20))] _ _ _ _
  refine pm_e_ret pm_a129_6 rfl rfl rfl rfl rfl rfl rfl rfl ?_
  exact k s1_ a1_ rt1 hG1 (by omega) tO1 fs1 fa1
set_option maxHeartbeats 4000000 in
set_option maxRecDepth 100000 in
theorem C_ztypeOfK {d n : Nat} {kd pl : Nat → Nat} {s : Nat → Int} {a : Nat → Int → Int} {c : Nat → cdt} {M : List va_E} {Q : Option Value → List va_E → Nat → Nat → Prop} {x y : Int} {rt : Int → Int} (hW : wf n kd pl) (h203 : al n kd pl 203) (hG : GC (s 20) (a 9) (a 10) (a 11) rt) (h1 : s 20 < 2790) (hx : 0 ≤ x ∧ x < s 20) (hy : 0 ≤ y ∧ y < s 20) (k : ∀ s' a' rt', GC (s' 20) (a' 9) (a' 10) (a' 11) rt' → s' 20 = s 20 + 2 → (∃ S1, opR (SOL (s 20) (-1) (a 9) (a 10) rt) S1 (s 20) y x ∧ opR S1 (SOL (s' 20) (-1) (a' 9) (a' 10) rt') (s 20 + 1) x (s 20)) → (∀ j, j ≠ 20 → s' j = s j) → (∀ j, j ≠ 9 → j ≠ 10 → j ≠ 11 → a' j = a j) → Q (some (.int (iI (s 20 + 1)))) (ch n kd pl s' a' c M) 0 0) : pm_E none (d + 2) pm_mm128 0 [(0, .ref (pl 203)), (1, .int (iI x)), (2, .int (iI y))] [] (ch n kd pl s a c M) 0 0 Q := by
  have hK := hG.2.1
  refine pm_e_sim pm_a128_0 rfl ?_
  show pm_E _ _ _ 1 [(0, .ref (pl 203)), (1, .int (iI x)), (2, .int (iI y))] [.ref (pl 203)] _ _ _ _
  refine pm_e_sim pm_a128_1 rfl ?_
  show pm_E _ _ _ 2 [(0, .ref (pl 203)), (1, .int (iI x)), (2, .int (iI y))] [.int (iI x), .ref (pl 203)] _ _ _ _
  refine pm_e_sim pm_a128_2 rfl ?_
  show pm_E _ _ _ 3 [(0, .ref (pl 203)), (1, .int (iI x)), (2, .int (iI y))] [.ref (pl 203), .int (iI x), .ref (pl 203)] _ _ _ _
  refine pm_e_sim pm_a128_3 rfl ?_
  show pm_E _ _ _ 4 [(0, .ref (pl 203)), (1, .int (iI x)), (2, .int (iI y))] [.int (iI y), .ref (pl 203), .int (iI x), .ref (pl 203)] _ _ _ _
  refine pm_e_sim pm_a128_4 rfl ?_
  show pm_E _ _ _ 5 [(0, .ref (pl 203)), (1, .int (iI x)), (2, .int (iI y))] [.int (iI x), .int (iI y), .ref (pl 203), .int (iI x), .ref (pl 203)] _ _ _ _
  refine pm_i_callv (k := (pl 203)) (T2 := pm_mm113) pm_a128_5 rfl rfl rfl (cg_203 hW h203) ⟨Nat.le_of_ble_eq_true rfl, Nat.le_of_ble_eq_true rfl, rfl, by decide +kernel⟩ ?_
  show pm_E none _ _ 0 [(0, .ref (pl 203)), (1, .int (iI y)), (2, .int (iI x))] [] _ _ _ _
  refine C_zarrowT hW h203 hG (by omega) ⟨by omega, by omega⟩ ⟨by omega, by omega⟩ (fun s2_ a2_ rt2 hG2 eK2 tO2 gs2 ga2 => ?_)
  have fs2 := gs2
  have fa2 := ga2
  have hK2 := hG2.2.1
  show pm_E _ _ _ 8 [(0, .ref (pl 203)), (1, .int (iI x)), (2, .int (iI y))] [.int (iI (s 20)), .int (iI x), .ref (pl 203)] _ _ _ _
  refine pm_i_callv (k := (pl 203)) (T2 := pm_mm113) pm_a128_8 rfl rfl rfl (cg_203 hW h203) ⟨Nat.le_of_ble_eq_true rfl, Nat.le_of_ble_eq_true rfl, rfl, by decide +kernel⟩ ?_
  show pm_E none _ _ 0 [(0, .ref (pl 203)), (1, .int (iI x)), (2, .int (iI (s 20)))] [] _ _ _ _
  refine C_zarrowT hW h203 hG2 (by omega) ⟨by omega, by omega⟩ ⟨by omega, by omega⟩ (fun s3_ a3_ rt3 hG3 eK3 tO3 gs3 ga3 => ?_)
  have fs3 : ∀ j, j ≠ 20 → s3_ j = s j := fun j h => by rw [gs3 j h]; exact fs2 j h
  have fa3 : ∀ j, j ≠ 9 → j ≠ 10 → j ≠ 11 → a3_ j = a j := fun j h h2 h3 => by rw [ga3 j h h2 h3]; exact fa2 j h h2 h3
  have hK3 := hG3.2.1
  show pm_E _ _ _ 11 [(0, .ref (pl 203)), (1, .int (iI x)), (2, .int (iI y))] [.int (iI (s2_ 20))] _ _ _ _
  refine pm_e_ret pm_a128_11 rfl rfl rfl rfl rfl rfl rfl rfl ?_
  refine pm_q_v (y := iI (s 20 + 1)) (congrArg iI (by omega)) ?_
  exact k s3_ a3_ rt3 hG3 (by omega) ⟨_, (opR_cg (by omega) (by omega) (by omega) tO2), (opR_cg (by omega) (by omega) (by omega) tO3)⟩ fs3 fa3
set_option maxHeartbeats 4000000 in
set_option maxRecDepth 100000 in
theorem C_ztypeOfS {d n : Nat} {kd pl : Nat → Nat} {s : Nat → Int} {a : Nat → Int → Int} {c : Nat → cdt} {M : List va_E} {Q : Option Value → List va_E → Nat → Nat → Prop} {x y z : Int} {rt : Int → Int} (hW : wf n kd pl) (h203 : al n kd pl 203) (hG : GC (s 20) (a 9) (a 10) (a 11) rt) (h1 : s 20 < 2790) (hx : 0 ≤ x ∧ x < s 20) (hy : 0 ≤ y ∧ y < s 20) (hz : 0 ≤ z ∧ z < s 20) (k : ∀ s' a' rt', GC (s' 20) (a' 9) (a' 10) (a' 11) rt' → s' 20 = s 20 + 6 → (∃ S1 S2 S3 S4 S5, opR (SOL (s 20) (-1) (a 9) (a 10) rt) S1 (s 20) y z ∧ opR S1 S2 (s 20 + 1) x (s 20) ∧ opR S2 S3 (s 20 + 2) x y ∧ opR S3 S4 (s 20 + 3) x z ∧ opR S4 S5 (s 20 + 4) (s 20 + 2) (s 20 + 3) ∧ opR S5 (SOL (s' 20) (-1) (a' 9) (a' 10) rt') (s 20 + 5) (s 20 + 1) (s 20 + 4)) → (∀ j, j ≠ 20 → s' j = s j) → (∀ j, j ≠ 9 → j ≠ 10 → j ≠ 11 → a' j = a j) → Q (some (.int (iI (s 20 + 5)))) (ch n kd pl s' a' c M) 0 0) : pm_E none (d + 2) pm_mm127 0 [(0, .ref (pl 203)), (1, .int (iI x)), (2, .int (iI y)), (3, .int (iI z))] [] (ch n kd pl s a c M) 0 0 Q := by
  have hK := hG.2.1
  refine pm_e_sim pm_a127_0 rfl ?_
  show pm_E _ _ _ 1 [(0, .ref (pl 203)), (1, .int (iI x)), (2, .int (iI y)), (3, .int (iI z))] [.ref (pl 203)] _ _ _ _
  refine pm_e_sim pm_a127_1 rfl ?_
  show pm_E _ _ _ 2 [(0, .ref (pl 203)), (1, .int (iI x)), (2, .int (iI y)), (3, .int (iI z))] [.int (iI x), .ref (pl 203)] _ _ _ _
  refine pm_e_sim pm_a127_2 rfl ?_
  show pm_E _ _ _ 3 [(0, .ref (pl 203)), (1, .int (iI x)), (2, .int (iI y)), (3, .int (iI z))] [.ref (pl 203), .int (iI x), .ref (pl 203)] _ _ _ _
  refine pm_e_sim pm_a127_3 rfl ?_
  show pm_E _ _ _ 4 [(0, .ref (pl 203)), (1, .int (iI x)), (2, .int (iI y)), (3, .int (iI z))] [.int (iI y), .ref (pl 203), .int (iI x), .ref (pl 203)] _ _ _ _
  refine pm_e_sim pm_a127_4 rfl ?_
  show pm_E _ _ _ 5 [(0, .ref (pl 203)), (1, .int (iI x)), (2, .int (iI y)), (3, .int (iI z))] [.int (iI z), .int (iI y), .ref (pl 203), .int (iI x), .ref (pl 203)] _ _ _ _
  refine pm_i_callv (k := (pl 203)) (T2 := pm_mm113) pm_a127_5 rfl rfl rfl (cg_203 hW h203) ⟨Nat.le_of_ble_eq_true rfl, Nat.le_of_ble_eq_true rfl, rfl, by decide +kernel⟩ ?_
  show pm_E none _ _ 0 [(0, .ref (pl 203)), (1, .int (iI y)), (2, .int (iI z))] [] _ _ _ _
  refine C_zarrowT hW h203 hG (by omega) ⟨by omega, by omega⟩ ⟨by omega, by omega⟩ (fun s4_ a4_ rt4 hG4 eK4 tO4 gs4 ga4 => ?_)
  have fs4 := gs4
  have fa4 := ga4
  have hK4 := hG4.2.1
  show pm_E _ _ _ 8 [(0, .ref (pl 203)), (1, .int (iI x)), (2, .int (iI y)), (3, .int (iI z))] [.int (iI (s 20)), .int (iI x), .ref (pl 203)] _ _ _ _
  refine pm_i_callv (k := (pl 203)) (T2 := pm_mm113) pm_a127_8 rfl rfl rfl (cg_203 hW h203) ⟨Nat.le_of_ble_eq_true rfl, Nat.le_of_ble_eq_true rfl, rfl, by decide +kernel⟩ ?_
  show pm_E none _ _ 0 [(0, .ref (pl 203)), (1, .int (iI x)), (2, .int (iI (s 20)))] [] _ _ _ _
  refine C_zarrowT hW h203 hG4 (by omega) ⟨by omega, by omega⟩ ⟨by omega, by omega⟩ (fun s5_ a5_ rt5 hG5 eK5 tO5 gs5 ga5 => ?_)
  have fs5 : ∀ j, j ≠ 20 → s5_ j = s j := fun j h => by rw [gs5 j h]; exact fs4 j h
  have fa5 : ∀ j, j ≠ 9 → j ≠ 10 → j ≠ 11 → a5_ j = a j := fun j h h2 h3 => by rw [ga5 j h h2 h3]; exact fa4 j h h2 h3
  have hK5 := hG5.2.1
  show pm_E _ _ _ 11 [(0, .ref (pl 203)), (1, .int (iI x)), (2, .int (iI y)), (3, .int (iI z))] [.int (iI (s4_ 20))] _ _ _ _
  refine pm_e_sim pm_a127_11 rfl ?_
  show pm_E _ _ _ 13 [(0, .ref (pl 203)), (1, .int (iI x)), (2, .int (iI y)), (3, .int (iI z)), (4, .int (iI (s4_ 20)))] [] _ _ _ _
  refine pm_e_sim pm_a127_13 rfl ?_
  show pm_E _ _ _ 14 [(0, .ref (pl 203)), (1, .int (iI x)), (2, .int (iI y)), (3, .int (iI z)), (4, .int (iI (s4_ 20)))] [.ref (pl 203)] _ _ _ _
  refine pm_e_sim pm_a127_14 rfl ?_
  show pm_E _ _ _ 16 [(0, .ref (pl 203)), (1, .int (iI x)), (2, .int (iI y)), (3, .int (iI z)), (4, .int (iI (s4_ 20)))] [.int (iI (s4_ 20)), .ref (pl 203)] _ _ _ _
  refine pm_e_sim pm_a127_16 rfl ?_
  show pm_E _ _ _ 17 [(0, .ref (pl 203)), (1, .int (iI x)), (2, .int (iI y)), (3, .int (iI z)), (4, .int (iI (s4_ 20)))] [.ref (pl 203), .int (iI (s4_ 20)), .ref (pl 203)] _ _ _ _
  refine pm_e_sim pm_a127_17 rfl ?_
  show pm_E _ _ _ 18 [(0, .ref (pl 203)), (1, .int (iI x)), (2, .int (iI y)), (3, .int (iI z)), (4, .int (iI (s4_ 20)))] [.ref (pl 203), .ref (pl 203), .int (iI (s4_ 20)), .ref (pl 203)] _ _ _ _
  refine pm_e_sim pm_a127_18 rfl ?_
  show pm_E _ _ _ 19 [(0, .ref (pl 203)), (1, .int (iI x)), (2, .int (iI y)), (3, .int (iI z)), (4, .int (iI (s4_ 20)))] [.int (iI x), .ref (pl 203), .ref (pl 203), .int (iI (s4_ 20)), .ref (pl 203)] _ _ _ _
  refine pm_e_sim pm_a127_19 rfl ?_
  show pm_E _ _ _ 20 [(0, .ref (pl 203)), (1, .int (iI x)), (2, .int (iI y)), (3, .int (iI z)), (4, .int (iI (s4_ 20)))] [.int (iI y), .int (iI x), .ref (pl 203), .ref (pl 203), .int (iI (s4_ 20)), .ref (pl 203)] _ _ _ _
  refine pm_i_callv (k := (pl 203)) (T2 := pm_mm113) pm_a127_20 rfl rfl rfl (cg_203 hW h203) ⟨Nat.le_of_ble_eq_true rfl, Nat.le_of_ble_eq_true rfl, rfl, by decide +kernel⟩ ?_
  show pm_E none _ _ 0 [(0, .ref (pl 203)), (1, .int (iI x)), (2, .int (iI y))] [] _ _ _ _
  refine C_zarrowT hW h203 hG5 (by omega) ⟨by omega, by omega⟩ ⟨by omega, by omega⟩ (fun s6_ a6_ rt6 hG6 eK6 tO6 gs6 ga6 => ?_)
  have fs6 : ∀ j, j ≠ 20 → s6_ j = s j := fun j h => by rw [gs6 j h]; exact fs5 j h
  have fa6 : ∀ j, j ≠ 9 → j ≠ 10 → j ≠ 11 → a6_ j = a j := fun j h h2 h3 => by rw [ga6 j h h2 h3]; exact fa5 j h h2 h3
  have hK6 := hG6.2.1
  show pm_E _ _ _ 23 [(0, .ref (pl 203)), (1, .int (iI x)), (2, .int (iI y)), (3, .int (iI z)), (4, .int (iI (s4_ 20)))] [.int (iI (s5_ 20)), .ref (pl 203), .int (iI (s4_ 20)), .ref (pl 203)] _ _ _ _
  refine pm_e_sim pm_a127_23 rfl ?_
  show pm_E _ _ _ 24 [(0, .ref (pl 203)), (1, .int (iI x)), (2, .int (iI y)), (3, .int (iI z)), (4, .int (iI (s4_ 20)))] [.ref (pl 203), .int (iI (s5_ 20)), .ref (pl 203), .int (iI (s4_ 20)), .ref (pl 203)] _ _ _ _
  refine pm_e_sim pm_a127_24 rfl ?_
  show pm_E _ _ _ 25 [(0, .ref (pl 203)), (1, .int (iI x)), (2, .int (iI y)), (3, .int (iI z)), (4, .int (iI (s4_ 20)))] [.int (iI x), .ref (pl 203), .int (iI (s5_ 20)), .ref (pl 203), .int (iI (s4_ 20)), .ref (pl 203)] _ _ _ _
  refine pm_e_sim pm_a127_25 rfl ?_
  show pm_E _ _ _ 26 [(0, .ref (pl 203)), (1, .int (iI x)), (2, .int (iI y)), (3, .int (iI z)), (4, .int (iI (s4_ 20)))] [.int (iI z), .int (iI x), .ref (pl 203), .int (iI (s5_ 20)), .ref (pl 203), .int (iI (s4_ 20)), .ref (pl 203)] _ _ _ _
  refine pm_i_callv (k := (pl 203)) (T2 := pm_mm113) pm_a127_26 rfl rfl rfl (cg_203 hW h203) ⟨Nat.le_of_ble_eq_true rfl, Nat.le_of_ble_eq_true rfl, rfl, by decide +kernel⟩ ?_
  show pm_E none _ _ 0 [(0, .ref (pl 203)), (1, .int (iI x)), (2, .int (iI z))] [] _ _ _ _
  refine C_zarrowT hW h203 hG6 (by omega) ⟨by omega, by omega⟩ ⟨by omega, by omega⟩ (fun s7_ a7_ rt7 hG7 eK7 tO7 gs7 ga7 => ?_)
  have fs7 : ∀ j, j ≠ 20 → s7_ j = s j := fun j h => by rw [gs7 j h]; exact fs6 j h
  have fa7 : ∀ j, j ≠ 9 → j ≠ 10 → j ≠ 11 → a7_ j = a j := fun j h h2 h3 => by rw [ga7 j h h2 h3]; exact fa6 j h h2 h3
  have hK7 := hG7.2.1
  show pm_E _ _ _ 29 [(0, .ref (pl 203)), (1, .int (iI x)), (2, .int (iI y)), (3, .int (iI z)), (4, .int (iI (s4_ 20)))] [.int (iI (s6_ 20)), .int (iI (s5_ 20)), .ref (pl 203), .int (iI (s4_ 20)), .ref (pl 203)] _ _ _ _
  refine pm_i_callv (k := (pl 203)) (T2 := pm_mm113) pm_a127_29 rfl rfl rfl (cg_203 hW h203) ⟨Nat.le_of_ble_eq_true rfl, Nat.le_of_ble_eq_true rfl, rfl, by decide +kernel⟩ ?_
  show pm_E none _ _ 0 [(0, .ref (pl 203)), (1, .int (iI (s5_ 20))), (2, .int (iI (s6_ 20)))] [] _ _ _ _
  refine C_zarrowT hW h203 hG7 (by omega) ⟨by omega, by omega⟩ ⟨by omega, by omega⟩ (fun s8_ a8_ rt8 hG8 eK8 tO8 gs8 ga8 => ?_)
  have fs8 : ∀ j, j ≠ 20 → s8_ j = s j := fun j h => by rw [gs8 j h]; exact fs7 j h
  have fa8 : ∀ j, j ≠ 9 → j ≠ 10 → j ≠ 11 → a8_ j = a j := fun j h h2 h3 => by rw [ga8 j h h2 h3]; exact fa7 j h h2 h3
  have hK8 := hG8.2.1
  show pm_E _ _ _ 32 [(0, .ref (pl 203)), (1, .int (iI x)), (2, .int (iI y)), (3, .int (iI z)), (4, .int (iI (s4_ 20)))] [.int (iI (s7_ 20)), .int (iI (s4_ 20)), .ref (pl 203)] _ _ _ _
  refine pm_i_callv (k := (pl 203)) (T2 := pm_mm113) pm_a127_32 rfl rfl rfl (cg_203 hW h203) ⟨Nat.le_of_ble_eq_true rfl, Nat.le_of_ble_eq_true rfl, rfl, by decide +kernel⟩ ?_
  show pm_E none _ _ 0 [(0, .ref (pl 203)), (1, .int (iI (s4_ 20))), (2, .int (iI (s7_ 20)))] [] _ _ _ _
  refine C_zarrowT hW h203 hG8 (by omega) ⟨by omega, by omega⟩ ⟨by omega, by omega⟩ (fun s9_ a9_ rt9 hG9 eK9 tO9 gs9 ga9 => ?_)
  have fs9 : ∀ j, j ≠ 20 → s9_ j = s j := fun j h => by rw [gs9 j h]; exact fs8 j h
  have fa9 : ∀ j, j ≠ 9 → j ≠ 10 → j ≠ 11 → a9_ j = a j := fun j h h2 h3 => by rw [ga9 j h h2 h3]; exact fa8 j h h2 h3
  have hK9 := hG9.2.1
  show pm_E _ _ _ 35 [(0, .ref (pl 203)), (1, .int (iI x)), (2, .int (iI y)), (3, .int (iI z)), (4, .int (iI (s4_ 20)))] [.int (iI (s8_ 20))] _ _ _ _
  refine pm_e_ret pm_a127_35 rfl rfl rfl rfl rfl rfl rfl rfl ?_
  refine pm_q_v (y := iI (s 20 + 5)) (congrArg iI (by omega)) ?_
  exact k s9_ a9_ rt9 hG9 (by omega) ⟨_, _, _, _, _, (opR_cg (by omega) (by omega) (by omega) tO4), (opR_cg (by omega) (by omega) (by omega) tO5), (opR_cg (by omega) (by omega) (by omega) tO6), (opR_cg (by omega) (by omega) (by omega) tO7), (opR_cg (by omega) (by omega) (by omega) tO8), (opR_cg (by omega) (by omega) (by omega) tO9)⟩ fs9 fa9
set_option maxHeartbeats 4000000 in
set_option maxRecDepth 100000 in
theorem C_ztypeOfLetter {d n : Nat} {kd pl : Nat → Nat} {s : Nat → Int} {a : Nat → Int → Int} {c : Nat → cdt} {M : List va_E} {Q : Option Value → List va_E → Nat → Nat → Prop} {x : Int} {rt : Int → Int} (hW : wf n kd pl) (h203 : al n kd pl 203) (hc : 2 ≤ x ∧ x ≤ 6) (hG : GC (s 20) (a 9) (a 10) (a 11) rt) (h1 : s 20 < 2780) (hx : 0 ≤ s 22 ∧ s 22 < s 20) (k : ∀ r s' a' rt', 0 ≤ r → r < s' 20 → GC (s' 20) (a' 9) (a' 10) (a' 11) rt' → s 20 ≤ s' 20 → s' 20 ≤ s 20 + 9 → opL (SOL (s 20) (-1) (a 9) (a 10) rt) (SOL (s' 20) (-1) (a' 9) (a' 10) rt') (s 20) x (s 22) r → (∀ j, j ≠ 20 → s' j = s j) → (∀ j, j ≠ 9 → j ≠ 10 → j ≠ 11 → a' j = a j) → Q (some (.int (iI r))) (ch n kd pl s' a' c M) 0 0) : pm_E none (d + 3) pm_mm126 0 [(0, .ref (pl 203)), (1, .int (iI x))] [] (ch n kd pl s a c M) 0 0 Q := by
  have hK := hG.2.1
  refine pm_e_sim pm_a126_0 rfl ?_
  show pm_E _ _ _ 1 [(0, .ref (pl 203)), (1, .int (iI x))] [.int (iI x)] _ _ _ _
  by_cases h_1 : x = 2
  · skip
    refine pm_e_top (y := iI 2) (congrArg iI h_1) ?_
    refine pm_e_tsi (t := 32) pm_a126_1 rfl rfl ?_
    show pm_E _ _ _ 32 [(0, .ref (pl 203)), (1, .int (iI x))] [] _ _ _ _
    refine pm_e_sim pm_a126_32 rfl ?_
    show pm_E _ _ _ 33 [(0, .ref (pl 203)), (1, .int (iI x))] [.ref (pl 203)] _ _ _ _
    refine pm_e_sim pm_a126_33 rfl ?_
    show pm_E _ _ _ 34 [(0, .ref (pl 203)), (1, .int (iI x))] [.ref (pl 203), .ref (pl 203)] _ _ _ _
    refine pm_i_callv (k := (pl 203)) (T2 := pm_mm112) pm_a126_34 rfl rfl rfl (cg_203 hW h203) ⟨Nat.le_of_ble_eq_true rfl, Nat.le_of_ble_eq_true rfl, rfl, by decide +kernel⟩ ?_
    show pm_E none _ _ 0 [(0, .ref (pl 203))] [] _ _ _ _
    refine C_zanyT hW h203 hG (by omega) (fun s10_ a10_ rt10 hG10 eK10 tO10 gs10 ga10 => ?_)
    have fs10 := gs10
    have fa10 := ga10
    have hK10 := hG10.2.1
    show pm_E _ _ _ 37 [(0, .ref (pl 203)), (1, .int (iI x))] [.int (iI (s 20)), .ref (pl 203)] _ _ _ _
    refine pm_e_sim pm_a126_37 rfl ?_
    show pm_E _ _ _ 38 [(0, .ref (pl 203)), (1, .int (iI x))] [.ref (pl 203), .int (iI (s 20)), .ref (pl 203)] _ _ _ _
    refine pm_i_callv (k := (pl 203)) (T2 := pm_mm112) pm_a126_38 rfl rfl rfl (cg_203 hW h203) ⟨Nat.le_of_ble_eq_true rfl, Nat.le_of_ble_eq_true rfl, rfl, by decide +kernel⟩ ?_
    show pm_E none _ _ 0 [(0, .ref (pl 203))] [] _ _ _ _
    refine C_zanyT hW h203 hG10 (by omega) (fun s11_ a11_ rt11 hG11 eK11 tO11 gs11 ga11 => ?_)
    have fs11 : ∀ j, j ≠ 20 → s11_ j = s j := fun j h => by rw [gs11 j h]; exact fs10 j h
    have fa11 : ∀ j, j ≠ 9 → j ≠ 10 → j ≠ 11 → a11_ j = a j := fun j h h2 h3 => by rw [ga11 j h h2 h3]; exact fa10 j h h2 h3
    have hK11 := hG11.2.1
    show pm_E _ _ _ 41 [(0, .ref (pl 203)), (1, .int (iI x))] [.int (iI (s10_ 20)), .int (iI (s 20)), .ref (pl 203)] _ _ _ _
    refine pm_e_sim pm_a126_41 rfl ?_
    show pm_E _ _ _ 42 [(0, .ref (pl 203)), (1, .int (iI x))] [.ref (pl 203), .int (iI (s10_ 20)), .int (iI (s 20)), .ref (pl 203)] _ _ _ _
    refine pm_i_callv (k := (pl 203)) (T2 := pm_mm112) pm_a126_42 rfl rfl rfl (cg_203 hW h203) ⟨Nat.le_of_ble_eq_true rfl, Nat.le_of_ble_eq_true rfl, rfl, by decide +kernel⟩ ?_
    show pm_E none _ _ 0 [(0, .ref (pl 203))] [] _ _ _ _
    refine C_zanyT hW h203 hG11 (by omega) (fun s12_ a12_ rt12 hG12 eK12 tO12 gs12 ga12 => ?_)
    have fs12 : ∀ j, j ≠ 20 → s12_ j = s j := fun j h => by rw [gs12 j h]; exact fs11 j h
    have fa12 : ∀ j, j ≠ 9 → j ≠ 10 → j ≠ 11 → a12_ j = a j := fun j h h2 h3 => by rw [ga12 j h h2 h3]; exact fa11 j h h2 h3
    have hK12 := hG12.2.1
    show pm_E _ _ _ 45 [(0, .ref (pl 203)), (1, .int (iI x))] [.int (iI (s11_ 20)), .int (iI (s10_ 20)), .int (iI (s 20)), .ref (pl 203)] _ _ _ _
    refine pm_i_callv (k := (pl 203)) (T2 := pm_mm127) pm_a126_45 rfl rfl rfl (cg_203 hW h203) ⟨Nat.le_of_ble_eq_true rfl, Nat.le_of_ble_eq_true rfl, rfl, by decide +kernel⟩ ?_
    show pm_E none _ _ 0 [(0, .ref (pl 203)), (1, .int (iI (s 20))), (2, .int (iI (s10_ 20))), (3, .int (iI (s11_ 20)))] [] _ _ _ _
    refine C_ztypeOfS hW h203 hG12 (by omega) ⟨by omega, by omega⟩ ⟨by omega, by omega⟩ ⟨by omega, by omega⟩ (fun s13_ a13_ rt13 hG13 eK13 tO13 gs13 ga13 => ?_)
    have fs13 : ∀ j, j ≠ 20 → s13_ j = s j := fun j h => by rw [gs13 j h]; exact fs12 j h
    have fa13 : ∀ j, j ≠ 9 → j ≠ 10 → j ≠ 11 → a13_ j = a j := fun j h h2 h3 => by rw [ga13 j h h2 h3]; exact fa12 j h h2 h3
    have hK13 := hG13.2.1
    show pm_E _ _ _ 48 [(0, .ref (pl 203)), (1, .int (iI x))] [.int (iI (s12_ 20 + 5))] _ _ _ _
    refine pm_e_ret pm_a126_48 rfl rfl rfl rfl rfl rfl rfl rfl ?_
    obtain ⟨S4, S5, S6, S7, S8, o4, o5, o6, o7, o8, o9⟩ := tO13
    exact k _ s13_ a13_ rt13 (by omega) (by omega) hG13 (by omega) (by omega) (opL_cg (by omega) (by omega) (opL_S (by omega) (opA_cg (by omega) tO10) (opA_cg (by omega) tO11) (opA_cg (by omega) tO12) (opR_cg (by omega) (by omega) (by omega) o4) (opR_cg (by omega) (by omega) (by omega) o5) (opR_cg (by omega) (by omega) (by omega) o6) (opR_cg (by omega) (by omega) (by omega) o7) (opR_cg (by omega) (by omega) (by omega) o8) (opR_cg (by omega) (by omega) (by omega) o9))) fs13 fa13
  by_cases h_2 : x = 3
  · skip
    refine pm_e_top (y := iI 3) (congrArg iI h_2) ?_
    refine pm_e_tsi (t := 49) pm_a126_1 rfl rfl ?_
    show pm_E _ _ _ 49 [(0, .ref (pl 203)), (1, .int (iI x))] [] _ _ _ _
    refine pm_e_sim pm_a126_49 rfl ?_
    show pm_E _ _ _ 50 [(0, .ref (pl 203)), (1, .int (iI x))] [.ref (pl 203)] _ _ _ _
    refine pm_e_sim pm_a126_50 rfl ?_
    show pm_E _ _ _ 51 [(0, .ref (pl 203)), (1, .int (iI x))] [.ref (pl 203), .ref (pl 203)] _ _ _ _
    refine pm_i_callv (k := (pl 203)) (T2 := pm_mm112) pm_a126_51 rfl rfl rfl (cg_203 hW h203) ⟨Nat.le_of_ble_eq_true rfl, Nat.le_of_ble_eq_true rfl, rfl, by decide +kernel⟩ ?_
    show pm_E none _ _ 0 [(0, .ref (pl 203))] [] _ _ _ _
    refine C_zanyT hW h203 hG (by omega) (fun s14_ a14_ rt14 hG14 eK14 tO14 gs14 ga14 => ?_)
    have fs14 := gs14
    have fa14 := ga14
    have hK14 := hG14.2.1
    show pm_E _ _ _ 54 [(0, .ref (pl 203)), (1, .int (iI x))] [.int (iI (s 20)), .ref (pl 203)] _ _ _ _
    refine pm_e_sim pm_a126_54 rfl ?_
    show pm_E _ _ _ 55 [(0, .ref (pl 203)), (1, .int (iI x))] [.ref (pl 203), .int (iI (s 20)), .ref (pl 203)] _ _ _ _
    refine pm_i_callv (k := (pl 203)) (T2 := pm_mm112) pm_a126_55 rfl rfl rfl (cg_203 hW h203) ⟨Nat.le_of_ble_eq_true rfl, Nat.le_of_ble_eq_true rfl, rfl, by decide +kernel⟩ ?_
    show pm_E none _ _ 0 [(0, .ref (pl 203))] [] _ _ _ _
    refine C_zanyT hW h203 hG14 (by omega) (fun s15_ a15_ rt15 hG15 eK15 tO15 gs15 ga15 => ?_)
    have fs15 : ∀ j, j ≠ 20 → s15_ j = s j := fun j h => by rw [gs15 j h]; exact fs14 j h
    have fa15 : ∀ j, j ≠ 9 → j ≠ 10 → j ≠ 11 → a15_ j = a j := fun j h h2 h3 => by rw [ga15 j h h2 h3]; exact fa14 j h h2 h3
    have hK15 := hG15.2.1
    show pm_E _ _ _ 58 [(0, .ref (pl 203)), (1, .int (iI x))] [.int (iI (s14_ 20)), .int (iI (s 20)), .ref (pl 203)] _ _ _ _
    refine pm_i_callv (k := (pl 203)) (T2 := pm_mm128) pm_a126_58 rfl rfl rfl (cg_203 hW h203) ⟨Nat.le_of_ble_eq_true rfl, Nat.le_of_ble_eq_true rfl, rfl, by decide +kernel⟩ ?_
    show pm_E none _ _ 0 [(0, .ref (pl 203)), (1, .int (iI (s 20))), (2, .int (iI (s14_ 20)))] [] _ _ _ _
    refine C_ztypeOfK hW h203 hG15 (by omega) ⟨by omega, by omega⟩ ⟨by omega, by omega⟩ (fun s16_ a16_ rt16 hG16 eK16 tO16 gs16 ga16 => ?_)
    have fs16 : ∀ j, j ≠ 20 → s16_ j = s j := fun j h => by rw [gs16 j h]; exact fs15 j h
    have fa16 : ∀ j, j ≠ 9 → j ≠ 10 → j ≠ 11 → a16_ j = a j := fun j h h2 h3 => by rw [ga16 j h h2 h3]; exact fa15 j h h2 h3
    have hK16 := hG16.2.1
    show pm_E _ _ _ 61 [(0, .ref (pl 203)), (1, .int (iI x))] [.int (iI (s15_ 20 + 1))] _ _ _ _
    refine pm_e_ret pm_a126_61 rfl rfl rfl rfl rfl rfl rfl rfl ?_
    obtain ⟨S3, o3, o4⟩ := tO16
    exact k _ s16_ a16_ rt16 (by omega) (by omega) hG16 (by omega) (by omega) (opL_cg (by omega) (by omega) (opL_K (by omega) (opA_cg (by omega) tO14) (opA_cg (by omega) tO15) (opR_cg (by omega) (by omega) (by omega) o3) (opR_cg (by omega) (by omega) (by omega) o4))) fs16 fa16
  by_cases h_3 : x = 4
  · skip
    refine pm_e_top (y := iI 4) (congrArg iI h_3) ?_
    refine pm_e_tsi (t := 62) pm_a126_1 rfl rfl ?_
    show pm_E _ _ _ 62 [(0, .ref (pl 203)), (1, .int (iI x))] [] _ _ _ _
    refine pm_e_sim pm_a126_62 rfl ?_
    show pm_E _ _ _ 63 [(0, .ref (pl 203)), (1, .int (iI x))] [.ref (pl 203)] _ _ _ _
    refine pm_e_sim pm_a126_63 rfl ?_
    show pm_E _ _ _ 64 [(0, .ref (pl 203)), (1, .int (iI x))] [.ref (pl 203), .ref (pl 203)] _ _ _ _
    refine pm_i_callv (k := (pl 203)) (T2 := pm_mm112) pm_a126_64 rfl rfl rfl (cg_203 hW h203) ⟨Nat.le_of_ble_eq_true rfl, Nat.le_of_ble_eq_true rfl, rfl, by decide +kernel⟩ ?_
    show pm_E none _ _ 0 [(0, .ref (pl 203))] [] _ _ _ _
    refine C_zanyT hW h203 hG (by omega) (fun s17_ a17_ rt17 hG17 eK17 tO17 gs17 ga17 => ?_)
    have fs17 := gs17
    have fa17 := ga17
    have hK17 := hG17.2.1
    show pm_E _ _ _ 67 [(0, .ref (pl 203)), (1, .int (iI x))] [.int (iI (s 20)), .ref (pl 203)] _ _ _ _
    refine pm_i_callv (k := (pl 203)) (T2 := pm_mm129) pm_a126_67 rfl rfl rfl (cg_203 hW h203) ⟨Nat.le_of_ble_eq_true rfl, Nat.le_of_ble_eq_true rfl, rfl, by decide +kernel⟩ ?_
    show pm_E none _ _ 0 [(0, .ref (pl 203)), (1, .int (iI (s 20)))] [] _ _ _ _
    refine C_ztypeOfI hW h203 hG17 (by omega) ⟨by omega, by omega⟩ (fun s18_ a18_ rt18 hG18 eK18 tO18 gs18 ga18 => ?_)
    have fs18 : ∀ j, j ≠ 20 → s18_ j = s j := fun j h => by rw [gs18 j h]; exact fs17 j h
    have fa18 : ∀ j, j ≠ 9 → j ≠ 10 → j ≠ 11 → a18_ j = a j := fun j h h2 h3 => by rw [ga18 j h h2 h3]; exact fa17 j h h2 h3
    have hK18 := hG18.2.1
    show pm_E _ _ _ 70 [(0, .ref (pl 203)), (1, .int (iI x))] [.int (iI (s17_ 20))] _ _ _ _
    refine pm_e_ret pm_a126_70 rfl rfl rfl rfl rfl rfl rfl rfl ?_
    exact k _ s18_ a18_ rt18 (by omega) (by omega) hG18 (by omega) (by omega) (opL_cg (by omega) (by omega) (opL_I (by omega) (opA_cg (by omega) tO17) (opR_cg (by omega) (by omega) (by omega) tO18))) fs18 fa18
  by_cases h_4 : x = 5
  · skip
    refine pm_e_top (y := iI 5) (congrArg iI h_4) ?_
    refine pm_e_tsi (t := 71) pm_a126_1 rfl rfl ?_
    show pm_E _ _ _ 71 [(0, .ref (pl 203)), (1, .int (iI x))] [] _ _ _ _
    refine pm_e_sim pm_a126_71 rfl ?_
    show pm_E _ _ _ 72 [(0, .ref (pl 203)), (1, .int (iI x))] [.ref (pl 203)] _ _ _ _
    refine pm_e_sim pm_a126_72 rfl ?_
    show pm_E _ _ _ 73 [(0, .ref (pl 203)), (1, .int (iI x))] [.ref (pl 203), .ref (pl 203)] _ _ _ _
    refine pm_i_get pm_a126_73 rfl (cg_203 hW h203) rfl ?_
    show pm_E _ _ _ 76 [(0, .ref (pl 203)), (1, .int (iI x))] [.int (iI (s 22)), .ref (pl 203)] _ _ _ _
    refine pm_i_callv (k := (pl 203)) (T2 := pm_mm129) pm_a126_76 rfl rfl rfl (cg_203 hW h203) ⟨Nat.le_of_ble_eq_true rfl, Nat.le_of_ble_eq_true rfl, rfl, by decide +kernel⟩ ?_
    show pm_E none _ _ 0 [(0, .ref (pl 203)), (1, .int (iI (s 22)))] [] _ _ _ _
    refine C_ztypeOfI hW h203 hG (by omega) ⟨by omega, by omega⟩ (fun s19_ a19_ rt19 hG19 eK19 tO19 gs19 ga19 => ?_)
    have fs19 := gs19
    have fa19 := ga19
    have hK19 := hG19.2.1
    show pm_E _ _ _ 79 [(0, .ref (pl 203)), (1, .int (iI x))] [.int (iI (s 20))] _ _ _ _
    refine pm_e_ret pm_a126_79 rfl rfl rfl rfl rfl rfl rfl rfl ?_
    exact k _ s19_ a19_ rt19 (by omega) (by omega) hG19 (by omega) (by omega) (opL_cg (by omega) (by omega) (opL_F tO19 hx)) fs19 fa19
  refine pm_e_tso (t := 80) pm_a126_1 (by rw [iI_t ⟨by omega, by omega⟩]; omega) rfl ?_
  show pm_E _ _ _ 80 [(0, .ref (pl 203)), (1, .int (iI x))] [] _ _ _ _
  refine pm_e_sim pm_a126_80 rfl ?_
  show pm_E _ _ _ 81 [(0, .ref (pl 203)), (1, .int (iI x))] [.ref (pl 203)] _ _ _ _
  refine pm_i_get pm_a126_81 rfl (cg_203 hW h203) rfl ?_
  show pm_E _ _ _ 84 [(0, .ref (pl 203)), (1, .int (iI x))] [.int (iI (s 22))] _ _ _ _
  refine pm_e_ret pm_a126_84 rfl rfl rfl rfl rfl rfl rfl rfl ?_
  exact k _ s a rt (by omega) (by omega) hG (by omega) (by omega) (opL_cg (by omega) rfl opL_X) (fun j _ => rfl) (fun j _ _ _ => rfl)
