/-! THE CLASS: Typer, exactly: a node of the term -/
theorem C_zawaitT {d n : Nat} {kd pl : Nat → Nat} {s : Nat → Int} {a : Nat → Int → Int} {c : Nat → cdt} {M : List va_E} {Q : Option Value → List va_E → Nat → Nat → Prop} {x : Int} (hW : wf n kd pl) (h203 : al n kd pl 203) (h0 : 0 ≤ s 21) (h1 : s 21 < 501) (k : ∀ s' a', s' 21 = s 21 + 1 → a' 15 = updI (a 15) (s 21) x → (∀ j, j ≠ 21 → s' j = s j) → (∀ j, j ≠ 15 → a' j = a j) → Q none (ch n kd pl s' a' c M) 0 0) : pm_E none d pm_mm115 0 [(0, .ref (pl 203)), (1, .int (iI x))] [] (ch n kd pl s a c M) 0 0 Q := C_zawait hW h203 h0 h1 (k _ _ rfl rfl (fun j h => by simp [updS, h]) (fun j h => by simp [updA, h]))
theorem C_zsetBT {d n : Nat} {kd pl : Nat → Nat} {s : Nat → Int} {a : Nat → Int → Int} {c : Nat → cdt} {M : List va_E} {Q : Option Value → List va_E → Nat → Nat → Prop} {p v : Int} (hW : wf n kd pl) (h203 : al n kd pl 203) (h0 : 0 ≤ p) (h1 : p < 500) (k : ∀ a', a' 14 = updI (a 14) p v → (∀ j, j ≠ 14 → a' j = a j) → Q none (ch n kd pl s a' c M) 0 0) : pm_E none d pm_mm114 0 [(0, .ref (pl 209)), (1, .int (iI p)), (2, .int (iI v))] [] (ch n kd pl s a c M) 0 0 Q := C_zset_209 hW h203 h0 h1 (k _ rfl (fun j h => by simp [updA, h]))
set_option maxHeartbeats 4000000 in
set_option maxRecDepth 100000 in
theorem C_ztypeApply {d n : Nat} {kd pl : Nat → Nat} {s : Nat → Int} {a : Nat → Int → Int} {c : Nat → cdt} {M : List va_E} {Q : Option Value → List va_E → Nat → Nat → Prop} {x : Int} {rt : Int → Int} (hW : wf n kd pl) (h203 : al n kd pl 203) (hG : GC (s 20) (a 9) (a 10) (a 11) rt) (h1 : s 20 < 2790) (hw0 : 0 ≤ s 21) (hw1 : s 21 < 499) (hx : 0 ≤ x ∧ x < s 20) (k : ∀ s' a' rt' S1, GC (s' 20) (a' 9) (a' 10) (a' 11) rt' → s' 20 = s 20 + 2 → opA (SOL (s 20) (-1) (a 9) (a 10) rt) S1 (s 20) → opR S1 (SOL (s' 20) (-1) (a' 9) (a' 10) rt') (s 20 + 1) (s 20) x → s' 21 = s 21 + 2 → a' 15 = updI (updI (a 15) (s 21) (s 20)) (s 21 + 1) (s 20 + 1) → (∀ j, j ≠ 20 → j ≠ 21 → s' j = s j) → (∀ j, j ≠ 9 → j ≠ 10 → j ≠ 11 → j ≠ 15 → a' j = a j) → Q none (ch n kd pl s' a' c M) 0 0) : pm_E none (d + 3) pm_mm118 0 [(0, .ref (pl 203)), (1, .int (iI x))] [] (ch n kd pl s a c M) 0 0 Q := by
  have hK := hG.2.1
  refine pm_e_sim pm_a118_0 rfl ?_
  show pm_E _ _ _ 1 [(0, .ref (pl 203)), (1, .int (iI x))] [.ref (pl 203)] _ _ _ _
  refine pm_i_callv (k := (pl 203)) (T2 := pm_mm112) pm_a118_1 rfl rfl rfl (cg_203 hW h203) ⟨Nat.le_of_ble_eq_true rfl, Nat.le_of_ble_eq_true rfl, rfl, by decide +kernel⟩ ?_
  show pm_E none _ _ 0 [(0, .ref (pl 203))] [] _ _ _ _
  refine C_zanyT hW h203 hG (by omega) (fun s1_ a1_ rt1 hG1 eK1 tO1 gs1 ga1 => ?_)
  have ew1 : s1_ 21 = s 21 := gs1 21 (by omega)
  have hK1 := hG1.2.1
  show pm_E _ _ _ 4 [(0, .ref (pl 203)), (1, .int (iI x))] [.int (iI (s 20))] _ _ _ _
  refine pm_e_sim pm_a118_4 rfl ?_
  show pm_E _ _ _ 5 [(0, .ref (pl 203)), (1, .int (iI x)), (2, .int (iI (s 20)))] [] _ _ _ _
  refine pm_e_sim pm_a118_5 rfl ?_
  show pm_E _ _ _ 6 [(0, .ref (pl 203)), (1, .int (iI x)), (2, .int (iI (s 20)))] [.ref (pl 203)] _ _ _ _
  refine pm_e_sim pm_a118_6 rfl ?_
  show pm_E _ _ _ 7 [(0, .ref (pl 203)), (1, .int (iI x)), (2, .int (iI (s 20)))] [.int (iI (s 20)), .ref (pl 203)] _ _ _ _
  refine pm_i_callv (k := (pl 203)) (T2 := pm_mm115) pm_a118_7 rfl rfl rfl (cg_203 hW h203) ⟨Nat.le_of_ble_eq_true rfl, Nat.le_of_ble_eq_true rfl, rfl, by decide +kernel⟩ ?_
  show pm_E none _ _ 0 [(0, .ref (pl 203)), (1, .int (iI (s 20)))] [] _ _ _ _
  refine C_zawaitT hW h203 (by omega) (by omega) (fun s2_ a2_ ew2 ef2 gs2 ga2 => ?_)
  have eK2 : s2_ 20 = s1_ 20 := gs2 20 (by omega)
  have hG2 : GC (s2_ 20) (a2_ 9) (a2_ 10) (a2_ 11) rt1 := by rw [eK2, ga2 9 (by omega), ga2 10 (by omega), ga2 11 (by omega)]; exact hG1
  rw [← eK2, ← ga2 9 (by omega), ← ga2 10 (by omega)] at tO1
  show pm_E _ _ _ 10 [(0, .ref (pl 203)), (1, .int (iI x)), (2, .int (iI (s 20)))] [] _ _ _ _
  refine pm_e_sim pm_a118_10 rfl ?_
  show pm_E _ _ _ 11 [(0, .ref (pl 203)), (1, .int (iI x)), (2, .int (iI (s 20)))] [.ref (pl 203)] _ _ _ _
  refine pm_e_sim pm_a118_11 rfl ?_
  show pm_E _ _ _ 12 [(0, .ref (pl 203)), (1, .int (iI x)), (2, .int (iI (s 20)))] [.ref (pl 203), .ref (pl 203)] _ _ _ _
  refine pm_e_sim pm_a118_12 rfl ?_
  show pm_E _ _ _ 13 [(0, .ref (pl 203)), (1, .int (iI x)), (2, .int (iI (s 20)))] [.int (iI (s 20)), .ref (pl 203), .ref (pl 203)] _ _ _ _
  refine pm_e_sim pm_a118_13 rfl ?_
  show pm_E _ _ _ 14 [(0, .ref (pl 203)), (1, .int (iI x)), (2, .int (iI (s 20)))] [.int (iI x), .int (iI (s 20)), .ref (pl 203), .ref (pl 203)] _ _ _ _
  refine pm_i_callv (k := (pl 203)) (T2 := pm_mm113) pm_a118_14 rfl rfl rfl (cg_203 hW h203) ⟨Nat.le_of_ble_eq_true rfl, Nat.le_of_ble_eq_true rfl, rfl, by decide +kernel⟩ ?_
  show pm_E none _ _ 0 [(0, .ref (pl 203)), (1, .int (iI (s 20))), (2, .int (iI x))] [] _ _ _ _
  refine C_zarrowT hW h203 hG2 (by omega) ⟨by omega, by omega⟩ ⟨by omega, by omega⟩ (fun s3_ a3_ rt3 hG3 eK3 tO3 gs3 ga3 => ?_)
  have ew3 : s3_ 21 = s2_ 21 := gs3 21 (by omega)
  have hK3 := hG3.2.1
  show pm_E _ _ _ 17 [(0, .ref (pl 203)), (1, .int (iI x)), (2, .int (iI (s 20)))] [.int (iI (s2_ 20)), .ref (pl 203)] _ _ _ _
  refine pm_i_callv (k := (pl 203)) (T2 := pm_mm115) pm_a118_17 rfl rfl rfl (cg_203 hW h203) ⟨Nat.le_of_ble_eq_true rfl, Nat.le_of_ble_eq_true rfl, rfl, by decide +kernel⟩ ?_
  show pm_E none _ _ 0 [(0, .ref (pl 203)), (1, .int (iI (s2_ 20)))] [] _ _ _ _
  refine C_zawaitT hW h203 (by omega) (by omega) (fun s4_ a4_ ew4 ef4 gs4 ga4 => ?_)
  have eK4 : s4_ 20 = s3_ 20 := gs4 20 (by omega)
  have hG4 : GC (s4_ 20) (a4_ 9) (a4_ 10) (a4_ 11) rt3 := by rw [eK4, ga4 9 (by omega), ga4 10 (by omega), ga4 11 (by omega)]; exact hG3
  rw [← eK4, ← ga4 9 (by omega), ← ga4 10 (by omega)] at tO3
  show pm_E _ _ _ 20 [(0, .ref (pl 203)), (1, .int (iI x)), (2, .int (iI (s 20)))] [] _ _ _ _
  refine pm_e_ret pm_a118_20 rfl rfl rfl rfl rfl rfl rfl rfl ?_
  exact k s4_ a4_ rt3 _ hG4 (by omega) tO1 (opR_cg (by omega) rfl rfl tO3) (by omega) (by rw [ef4, ga3 15 (by omega) (by omega) (by omega), ef2, ga1 15 (by omega) (by omega) (by omega), show s3_ 21 = s 21 + 1 by omega, show s2_ 20 = s 20 + 1 by omega, show s1_ 21 = s 21 by omega]) (fun j h1 h2 => by rw [gs4 j h2, gs3 j h1, gs2 j h2, gs1 j h1]) (fun j q9 q10 q11 q15 => by rw [ga4 j q15, ga3 j q9 q10 q11, ga2 j q15, ga1 j q9 q10 q11])
set_option maxHeartbeats 4000000 in
set_option maxRecDepth 100000 in
theorem C_ztypeOfLambda {d n : Nat} {kd pl : Nat → Nat} {s : Nat → Int} {a : Nat → Int → Int} {c : Nat → cdt} {M : List va_E} {Q : Option Value → List va_E → Nat → Nat → Prop} {x : Int} {rt : Int → Int} (hW : wf n kd pl) (h203 : al n kd pl 203) (hG : GC (s 20) (a 9) (a 10) (a 11) rt) (h1 : s 20 < 2790) (hw0 : 0 ≤ s 21) (hw1 : s 21 < 499) (hx : 0 ≤ x ∧ x < 500) (k : ∀ s' a' rt' S1 S2, GC (s' 20) (a' 9) (a' 10) (a' 11) rt' → s' 20 = s 20 + 3 → opA (SOL (s 20) (-1) (a 9) (a 10) rt) S1 (s 20) → opA S1 S2 (s 20 + 1) → opR S2 (SOL (s' 20) (-1) (a' 9) (a' 10) rt') (s 20 + 2) (s 20) (s 20 + 1) → s' 21 = s 21 + 1 → a' 15 = updI (a 15) (s 21) (s 20 + 1) → a' 14 = updI (a 14) x (s 20) → (∀ j, j ≠ 20 → j ≠ 21 → s' j = s j) → (∀ j, j ≠ 9 → j ≠ 10 → j ≠ 11 → j ≠ 14 → j ≠ 15 → a' j = a j) → Q (some (.int (iI (s 20 + 2)))) (ch n kd pl s' a' c M) 0 0) : pm_E none (d + 3) pm_mm119 0 [(0, .ref (pl 203)), (1, .int (iI x))] [] (ch n kd pl s a c M) 0 0 Q := by
  have hK := hG.2.1
  refine pm_e_sim pm_a119_0 rfl ?_
  show pm_E _ _ _ 1 [(0, .ref (pl 203)), (1, .int (iI x))] [.ref (pl 203)] _ _ _ _
  refine pm_i_callv (k := (pl 203)) (T2 := pm_mm112) pm_a119_1 rfl rfl rfl (cg_203 hW h203) ⟨Nat.le_of_ble_eq_true rfl, Nat.le_of_ble_eq_true rfl, rfl, by decide +kernel⟩ ?_
  show pm_E none _ _ 0 [(0, .ref (pl 203))] [] _ _ _ _
  refine C_zanyT hW h203 hG (by omega) (fun s1_ a1_ rt1 hG1 eK1 tO1 gs1 ga1 => ?_)
  have ew1 : s1_ 21 = s 21 := gs1 21 (by omega)
  have hK1 := hG1.2.1
  show pm_E _ _ _ 4 [(0, .ref (pl 203)), (1, .int (iI x))] [.int (iI (s 20))] _ _ _ _
  refine pm_e_sim pm_a119_4 rfl ?_
  show pm_E _ _ _ 5 [(0, .ref (pl 203)), (1, .int (iI x)), (2, .int (iI (s 20)))] [] _ _ _ _
  refine pm_e_sim pm_a119_5 rfl ?_
  show pm_E _ _ _ 6 [(0, .ref (pl 203)), (1, .int (iI x)), (2, .int (iI (s 20)))] [.ref (pl 203)] _ _ _ _
  refine pm_i_callv (k := (pl 203)) (T2 := pm_mm112) pm_a119_6 rfl rfl rfl (cg_203 hW h203) ⟨Nat.le_of_ble_eq_true rfl, Nat.le_of_ble_eq_true rfl, rfl, by decide +kernel⟩ ?_
  show pm_E none _ _ 0 [(0, .ref (pl 203))] [] _ _ _ _
  refine C_zanyT hW h203 hG1 (by omega) (fun s2_ a2_ rt2 hG2 eK2 tO2 gs2 ga2 => ?_)
  have ew2 : s2_ 21 = s1_ 21 := gs2 21 (by omega)
  have hK2 := hG2.2.1
  show pm_E _ _ _ 9 [(0, .ref (pl 203)), (1, .int (iI x)), (2, .int (iI (s 20)))] [.int (iI (s1_ 20))] _ _ _ _
  refine pm_e_sim pm_a119_9 rfl ?_
  show pm_E _ _ _ 10 [(0, .ref (pl 203)), (1, .int (iI x)), (2, .int (iI (s 20))), (3, .int (iI (s1_ 20)))] [] _ _ _ _
  refine pm_e_sim pm_a119_10 rfl ?_
  show pm_E _ _ _ 11 [(0, .ref (pl 203)), (1, .int (iI x)), (2, .int (iI (s 20))), (3, .int (iI (s1_ 20)))] [.ref (pl 203)] _ _ _ _
  refine pm_i_get pm_a119_11 rfl (cg_203 hW h203) rfl ?_
  show pm_E _ _ _ 14 [(0, .ref (pl 203)), (1, .int (iI x)), (2, .int (iI (s 20))), (3, .int (iI (s1_ 20)))] [.ref (pl 209)] _ _ _ _
  refine pm_e_sim pm_a119_14 rfl ?_
  show pm_E _ _ _ 15 [(0, .ref (pl 203)), (1, .int (iI x)), (2, .int (iI (s 20))), (3, .int (iI (s1_ 20)))] [.int (iI x), .ref (pl 209)] _ _ _ _
  refine pm_e_sim pm_a119_15 rfl ?_
  show pm_E _ _ _ 16 [(0, .ref (pl 203)), (1, .int (iI x)), (2, .int (iI (s 20))), (3, .int (iI (s1_ 20)))] [.int (iI (s 20)), .int (iI x), .ref (pl 209)] _ _ _ _
  refine pm_e_call (T2 := pm_mm114) pm_a119_16 rfl rfl rfl rfl rfl rfl rfl rfl rfl ?_
  show pm_E none _ _ 0 [(0, .ref (pl 209)), (1, .int (iI x)), (2, .int (iI (s 20)))] [] _ _ _ _
  refine C_zsetBT hW h203 (by omega) (by omega) (fun a3_ eb3 ga3 => ?_)
  have hG3 : GC (s2_ 20) (a3_ 9) (a3_ 10) (a3_ 11) rt2 := by rw [ga3 9 (by omega), ga3 10 (by omega), ga3 11 (by omega)]; exact hG2
  rw [← ga3 9 (by omega), ← ga3 10 (by omega)] at tO2
  show pm_E _ _ _ 19 [(0, .ref (pl 203)), (1, .int (iI x)), (2, .int (iI (s 20))), (3, .int (iI (s1_ 20)))] [] _ _ _ _
  refine pm_e_sim pm_a119_19 rfl ?_
  show pm_E _ _ _ 20 [(0, .ref (pl 203)), (1, .int (iI x)), (2, .int (iI (s 20))), (3, .int (iI (s1_ 20)))] [.ref (pl 203)] _ _ _ _
  refine pm_e_sim pm_a119_20 rfl ?_
  show pm_E _ _ _ 21 [(0, .ref (pl 203)), (1, .int (iI x)), (2, .int (iI (s 20))), (3, .int (iI (s1_ 20)))] [.int (iI (s1_ 20)), .ref (pl 203)] _ _ _ _
  refine pm_i_callv (k := (pl 203)) (T2 := pm_mm115) pm_a119_21 rfl rfl rfl (cg_203 hW h203) ⟨Nat.le_of_ble_eq_true rfl, Nat.le_of_ble_eq_true rfl, rfl, by decide +kernel⟩ ?_
  show pm_E none _ _ 0 [(0, .ref (pl 203)), (1, .int (iI (s1_ 20)))] [] _ _ _ _
  refine C_zawaitT hW h203 (by omega) (by omega) (fun s4_ a4_ ew4 ef4 gs4 ga4 => ?_)
  have eK4 : s4_ 20 = s2_ 20 := gs4 20 (by omega)
  have hG4 : GC (s4_ 20) (a4_ 9) (a4_ 10) (a4_ 11) rt2 := by rw [eK4, ga4 9 (by omega), ga4 10 (by omega), ga4 11 (by omega)]; exact hG3
  rw [← eK4, ← ga4 9 (by omega), ← ga4 10 (by omega)] at tO2
  show pm_E _ _ _ 24 [(0, .ref (pl 203)), (1, .int (iI x)), (2, .int (iI (s 20))), (3, .int (iI (s1_ 20)))] [] _ _ _ _
  refine pm_e_sim pm_a119_24 rfl ?_
  show pm_E _ _ _ 25 [(0, .ref (pl 203)), (1, .int (iI x)), (2, .int (iI (s 20))), (3, .int (iI (s1_ 20)))] [.ref (pl 203)] _ _ _ _
  refine pm_e_sim pm_a119_25 rfl ?_
  show pm_E _ _ _ 26 [(0, .ref (pl 203)), (1, .int (iI x)), (2, .int (iI (s 20))), (3, .int (iI (s1_ 20)))] [.int (iI (s 20)), .ref (pl 203)] _ _ _ _
  refine pm_e_sim pm_a119_26 rfl ?_
  show pm_E _ _ _ 27 [(0, .ref (pl 203)), (1, .int (iI x)), (2, .int (iI (s 20))), (3, .int (iI (s1_ 20)))] [.int (iI (s1_ 20)), .int (iI (s 20)), .ref (pl 203)] _ _ _ _
  refine pm_i_callv (k := (pl 203)) (T2 := pm_mm113) pm_a119_27 rfl rfl rfl (cg_203 hW h203) ⟨Nat.le_of_ble_eq_true rfl, Nat.le_of_ble_eq_true rfl, rfl, by decide +kernel⟩ ?_
  show pm_E none _ _ 0 [(0, .ref (pl 203)), (1, .int (iI (s 20))), (2, .int (iI (s1_ 20)))] [] _ _ _ _
  refine C_zarrowT hW h203 hG4 (by omega) ⟨by omega, by omega⟩ ⟨by omega, by omega⟩ (fun s5_ a5_ rt5 hG5 eK5 tO5 gs5 ga5 => ?_)
  have ew5 : s5_ 21 = s4_ 21 := gs5 21 (by omega)
  have hK5 := hG5.2.1
  show pm_E _ _ _ 30 [(0, .ref (pl 203)), (1, .int (iI x)), (2, .int (iI (s 20))), (3, .int (iI (s1_ 20)))] [.int (iI (s4_ 20))] _ _ _ _
  refine pm_e_ret pm_a119_30 rfl rfl rfl rfl rfl rfl rfl rfl ?_
  refine pm_q_v (y := iI (s 20 + 2)) (congrArg iI (by omega)) ?_
  exact k s5_ a5_ rt5 _ _ hG5 (by omega) tO1 (opA_cg (by omega) tO2) (opR_cg (by omega) rfl (by omega) tO5) (by omega) (by rw [ga5 15 (by omega) (by omega) (by omega), ef4, ga3 15 (by omega), ga2 15 (by omega) (by omega) (by omega), ga1 15 (by omega) (by omega) (by omega), show s2_ 21 = s 21 by omega, show s1_ 20 = s 20 + 1 by omega]) (by rw [ga5 14 (by omega) (by omega) (by omega), ga4 14 (by omega), eb3, ga2 14 (by omega) (by omega) (by omega), ga1 14 (by omega) (by omega) (by omega)]) (fun j h1 h2 => by rw [gs5 j h1, gs4 j h2, gs2 j h1, gs1 j h1]) (fun j q9 q10 q11 q14 q15 => by rw [ga5 j q9 q10 q11, ga4 j q15, ga3 j q14, ga2 j q9 q10 q11, ga1 j q9 q10 q11])
set_option maxHeartbeats 4000000 in
set_option maxRecDepth 100000 in
theorem C_ztypeNode {d n : Nat} {kd pl : Nat → Nat} {s : Nat → Int} {a : Nat → Int → Int} {c : Nat → cdt} {M : List va_E} {Q : Option Value → List va_E → Nat → Nat → Prop} {x p z : Int} {N : Int} {g D : Int → Int} {TY : List Int → List Int → Prop} {rt : Int → Int} (hW : wf n kd pl) (h203 : al n kd pl 203) (hN : N ≤ 500) (hx : x = g p) (hx1 : g p = 0 ∨ g p = 1 ∨ (2 ≤ g p ∧ g p ≤ 6) ∨ (10 ≤ g p ∧ g p - 10 < D p)) (hD : a 2 = D) (hD1 : ∀ q, 0 ≤ q → q < N → 0 ≤ D q ∧ D q ≤ q) (h22 : s 22 = 1) (hw : 0 ≤ s 21) (hT : TI g D N TY (s 20) (a 9) (a 10) (a 11) rt (a 14) (z :: ws9 (a 15) (s 21)) p) (k : ∀ s' a' rt', TI g D N TY (s' 20) (a' 9) (a' 10) (a' 11) rt' (a' 14) (ws9 (a' 15) (s' 21)) (p + 1) → 0 ≤ s' 21 → (∀ j, j ≠ 20 → j ≠ 21 → s' j = s j) → (∀ j, j ≠ 9 → j ≠ 10 → j ≠ 11 → j ≠ 12 → j ≠ 14 → j ≠ 15 → a' j = a j) → Q none (ch n kd pl s' a' c M) 0 0) : pm_E none (d + 4) pm_mm117 0 [(0, .ref (pl 203)), (1, .int (iI x)), (2, .int (iI p)), (3, .int (iI z))] [] (ch n kd pl s a c M) 0 0 Q := by
  obtain ⟨hG, hK2, hKb, hws, hbn, hf, hC⟩ := id hT
  have hl := FO9_len hf
  rw [List.length_cons, ws9_len] at hKb hl
  have hf1 : FO9 g D N ((ws9 (a 15) (s 21)).length + 1) p := hf
  obtain ⟨p0, p1, _⟩ := id hf1
  have hz := hws z List.mem_cons_self
  have hd := hD1 p p0 p1
  have hsd : shD a p = D p := by unfold shD; rw [if_pos ⟨by omega, by omega⟩, hD]
  refine pm_e_sim pm_a117_0 rfl ?_
  show pm_E _ _ _ 1 [(0, .ref (pl 203)), (1, .int (iI x)), (2, .int (iI p)), (3, .int (iI z))] [.int (iI x)] _ _ _ _
  refine pm_i_ne (t := 12) pm_a117_1 rfl ⟨by omega, by omega⟩ (fun h_1 => ?_) (fun h_1 => ?_)
  · skip
    show pm_E _ _ _ 12 [(0, .ref (pl 203)), (1, .int (iI x)), (2, .int (iI p)), (3, .int (iI z))] [] _ _ _ _
    refine pm_e_sim pm_a117_12 rfl ?_
    show pm_E _ _ _ 13 [(0, .ref (pl 203)), (1, .int (iI x)), (2, .int (iI p)), (3, .int (iI z))] [.int (iI x)] _ _ _ _
    refine pm_e_sim pm_a117_13 rfl ?_
    refine pm_e_top (y := iI 1) (by decide +kernel) ?_
    show pm_E _ _ _ 14 [(0, .ref (pl 203)), (1, .int (iI x)), (2, .int (iI p)), (3, .int (iI z))] [.int (iI 1), .int (iI x)] _ _ _ _
    refine pm_c_ne (t := 37) pm_a117_14 rfl ⟨by omega, by omega⟩ ⟨by omega, by omega⟩ (fun h_2 => ?_) (fun h_2 => ?_)
    · skip
      show pm_E _ _ _ 37 [(0, .ref (pl 203)), (1, .int (iI x)), (2, .int (iI p)), (3, .int (iI z))] [] _ _ _ _
      refine pm_e_sim pm_a117_37 rfl ?_
      show pm_E _ _ _ 38 [(0, .ref (pl 203)), (1, .int (iI x)), (2, .int (iI p)), (3, .int (iI z))] [.int (iI x)] _ _ _ _
      refine pm_e_sim pm_a117_38 rfl ?_
      refine pm_e_top (y := iI 10) (by decide +kernel) ?_
      show pm_E _ _ _ 40 [(0, .ref (pl 203)), (1, .int (iI x)), (2, .int (iI p)), (3, .int (iI z))] [.int (iI 10), .int (iI x)] _ _ _ _
      refine pm_c_lt (t := 67) pm_a117_40 rfl ⟨by omega, by omega⟩ ⟨by omega, by omega⟩ (fun h_3 => ?_) (fun h_3 => ?_)
      · skip
        show pm_E _ _ _ 67 [(0, .ref (pl 203)), (1, .int (iI x)), (2, .int (iI p)), (3, .int (iI z))] [] _ _ _ _
        refine pm_e_sim pm_a117_67 rfl ?_
        show pm_E _ _ _ 68 [(0, .ref (pl 203)), (1, .int (iI x)), (2, .int (iI p)), (3, .int (iI z))] [.ref (pl 203)] _ _ _ _
        refine pm_e_sim pm_a117_68 rfl ?_
        show pm_E _ _ _ 69 [(0, .ref (pl 203)), (1, .int (iI x)), (2, .int (iI p)), (3, .int (iI z))] [.int (iI z), .ref (pl 203)] _ _ _ _
        refine pm_e_sim pm_a117_69 rfl ?_
        show pm_E _ _ _ 70 [(0, .ref (pl 203)), (1, .int (iI x)), (2, .int (iI p)), (3, .int (iI z))] [.ref (pl 203), .int (iI z), .ref (pl 203)] _ _ _ _
        refine pm_e_sim pm_a117_70 rfl ?_
        show pm_E _ _ _ 71 [(0, .ref (pl 203)), (1, .int (iI x)), (2, .int (iI p)), (3, .int (iI z))] [.int (iI x), .ref (pl 203), .int (iI z), .ref (pl 203)] _ _ _ _
        refine pm_i_callv (k := (pl 203)) (T2 := pm_mm126) pm_a117_71 rfl rfl rfl (cg_203 hW h203) ⟨Nat.le_of_ble_eq_true rfl, Nat.le_of_ble_eq_true rfl, rfl, by decide +kernel⟩ ?_
        show pm_E none _ _ 0 [(0, .ref (pl 203)), (1, .int (iI x))] [] _ _ _ _
        refine C_ztypeOfLetter hW h203 ⟨by omega, by omega⟩ hG (by omega) ⟨by omega, by omega⟩ (fun r s1 a1 rt1 r0 r1 hG1 eK1 eK2 o1 fs1 fa1 => ?_)
        show pm_E _ _ _ 74 [(0, .ref (pl 203)), (1, .int (iI x)), (2, .int (iI p)), (3, .int (iI z))] [.int (iI r), .int (iI z), .ref (pl 203)] _ _ _ _
        refine pm_i_callv (k := (pl 203)) (T2 := pm_mm120) pm_a117_74 rfl rfl rfl (cg_203 hW h203) ⟨Nat.le_of_ble_eq_true rfl, Nat.le_of_ble_eq_true rfl, rfl, by decide +kernel⟩ ?_
        show pm_E none _ _ 0 [(0, .ref (pl 203)), (1, .int (iI z)), (2, .int (iI r))] [] _ _ _ _
        refine C_zjoinAll hW h203 (by omega) hG1 ⟨by omega, by omega⟩ ⟨by omega, by omega⟩ (fun a2 rt2 fr2 hG2 hS2 => ?_)
        show pm_E _ _ _ 77 [(0, .ref (pl 203)), (1, .int (iI x)), (2, .int (iI p)), (3, .int (iI z))] [] _ _ _ _
        refine pm_e_ret pm_a117_77 rfl rfl rfl rfl rfl rfl rfl rfl ?_
        rw [hx, h22] at o1
        have hT1 := TI_let hT (by omega) (by omega) eK1 eK2 hG2 o1 hS2
        have ew1 := fs1 21 (by omega)
        refine k s1 a2 rt2 ?_ (by omega) (fun j h1 _ => fs1 j h1) (fun j q9 q10 q11 q12 q14 q15 => by rw [fr2 j q11 q12]; exact fa1 j q9 q10 q11)
        rw [fr2 9 (by omega) (by omega), fr2 10 (by omega) (by omega), fr2 14 (by omega) (by omega), fr2 15 (by omega) (by omega), fa1 14 (by omega) (by omega) (by omega), fa1 15 (by omega) (by omega) (by omega), ew1]; exact hT1
      · skip
        show pm_E _ _ _ 43 [(0, .ref (pl 203)), (1, .int (iI x)), (2, .int (iI p)), (3, .int (iI z))] [] _ _ _ _
        refine pm_e_sim pm_a117_43 rfl ?_
        show pm_E _ _ _ 44 [(0, .ref (pl 203)), (1, .int (iI x)), (2, .int (iI p)), (3, .int (iI z))] [.ref (pl 203)] _ _ _ _
        refine pm_e_sim pm_a117_44 rfl ?_
        show pm_E _ _ _ 45 [(0, .ref (pl 203)), (1, .int (iI x)), (2, .int (iI p)), (3, .int (iI z))] [.int (iI z), .ref (pl 203)] _ _ _ _
        refine pm_e_sim pm_a117_45 rfl ?_
        show pm_E _ _ _ 46 [(0, .ref (pl 203)), (1, .int (iI x)), (2, .int (iI p)), (3, .int (iI z))] [.ref (pl 203), .int (iI z), .ref (pl 203)] _ _ _ _
        refine pm_i_get pm_a117_46 rfl (cg_203 hW h203) rfl ?_
        show pm_E _ _ _ 49 [(0, .ref (pl 203)), (1, .int (iI x)), (2, .int (iI p)), (3, .int (iI z))] [.ref (pl 209), .int (iI z), .ref (pl 203)] _ _ _ _
        refine pm_e_sim pm_a117_49 rfl ?_
        show pm_E _ _ _ 50 [(0, .ref (pl 203)), (1, .int (iI x)), (2, .int (iI p)), (3, .int (iI z))] [.ref (pl 203), .ref (pl 209), .int (iI z), .ref (pl 203)] _ _ _ _
        refine pm_i_get pm_a117_50 rfl (cg_203 hW h203) rfl ?_
        show pm_E _ _ _ 53 [(0, .ref (pl 203)), (1, .int (iI x)), (2, .int (iI p)), (3, .int (iI z))] [.ref (pl 6), .ref (pl 209), .int (iI z), .ref (pl 203)] _ _ _ _
        refine pm_e_sim pm_a117_53 rfl ?_
        show pm_E _ _ _ 54 [(0, .ref (pl 203)), (1, .int (iI x)), (2, .int (iI p)), (3, .int (iI z))] [.int (iI x), .ref (pl 6), .ref (pl 209), .int (iI z), .ref (pl 203)] _ _ _ _
        refine pm_e_sim pm_a117_54 rfl ?_
        show pm_E _ _ _ 55 [(0, .ref (pl 203)), (1, .int (iI x)), (2, .int (iI p)), (3, .int (iI z))] [.int (iI p), .int (iI x), .ref (pl 6), .ref (pl 209), .int (iI z), .ref (pl 203)] _ _ _ _
        refine pm_i_callv (k := (pl 6)) (T2 := pm_mm80) pm_a117_55 rfl rfl rfl (cg_6 hW) ⟨Nat.le_of_ble_eq_true rfl, Nat.le_of_ble_eq_true rfl, rfl, by decide +kernel⟩ ?_
        show pm_E none _ _ 0 [(0, .ref (pl 6)), (1, .int (iI x)), (2, .int (iI p))] [] _ _ _ _
        refine C_binderDepth hW ⟨by omega, by omega⟩ ?_
        refine pm_e_top (y := iI (D p - 1 - (x - 10))) (congrArg (fun z : Int => iI (z - 1 - (x - 10))) hsd) ?_
        have hb := hbn p (Int.le_refl _) p1 (Int.le_refl _) (D p - 1 - (x - 10)) (by omega) (by omega)
        show pm_E _ _ _ 58 [(0, .ref (pl 203)), (1, .int (iI x)), (2, .int (iI p)), (3, .int (iI z))] [.int (iI (D p - 1 - (x - 10))), .ref (pl 209), .int (iI z), .ref (pl 203)] _ _ _ _
        refine pm_e_call (T2 := pm_mm123) pm_a117_58 rfl rfl rfl rfl rfl rfl rfl rfl rfl ?_
        show pm_E none _ _ 0 [(0, .ref (pl 209)), (1, .int (iI (D p - 1 - (x - 10))))] [] _ _ _ _
        refine C_zat_209 hW h203 (by omega) (by omega) ?_
        show pm_E _ _ _ 61 [(0, .ref (pl 203)), (1, .int (iI x)), (2, .int (iI p)), (3, .int (iI z))] [.int (iI (a 14 (D p - 1 - (x - 10)))), .int (iI z), .ref (pl 203)] _ _ _ _
        refine pm_i_callv (k := (pl 203)) (T2 := pm_mm120) pm_a117_61 rfl rfl rfl (cg_203 hW h203) ⟨Nat.le_of_ble_eq_true rfl, Nat.le_of_ble_eq_true rfl, rfl, by decide +kernel⟩ ?_
        show pm_E none _ _ 0 [(0, .ref (pl 203)), (1, .int (iI z)), (2, .int (iI (a 14 (D p - 1 - (x - 10)))))] [] _ _ _ _
        refine C_zjoinAll hW h203 (by omega) hG ⟨by omega, by omega⟩ ⟨by omega, by omega⟩ (fun a2 rt2 fr2 hG2 hS2 => ?_)
        show pm_E _ _ _ 64 [(0, .ref (pl 203)), (1, .int (iI x)), (2, .int (iI p)), (3, .int (iI z))] [] _ _ _ _
        refine pm_e_goto pm_a117_64 rfl ?_
        show pm_E _ _ _ 77 [(0, .ref (pl 203)), (1, .int (iI x)), (2, .int (iI p)), (3, .int (iI z))] [] _ _ _ _
        refine pm_e_ret pm_a117_77 rfl rfl rfl rfl rfl rfl rfl rfl ?_
        have hT1 := TI_var (r := a 14 (D p - 1 - (x - 10))) hT (by omega) (by omega) (by rw [hx]) hG2 hS2
        refine k s a2 rt2 ?_ hw (fun j _ _ => rfl) (fun j q9 q10 q11 q12 q14 q15 => fr2 j q11 q12)
        rw [fr2 9 (by omega) (by omega), fr2 10 (by omega) (by omega), fr2 14 (by omega) (by omega), fr2 15 (by omega) (by omega)]; exact hT1
    · skip
      show pm_E _ _ _ 17 [(0, .ref (pl 203)), (1, .int (iI x)), (2, .int (iI p)), (3, .int (iI z))] [] _ _ _ _
      refine pm_e_sim pm_a117_17 rfl ?_
      show pm_E _ _ _ 18 [(0, .ref (pl 203)), (1, .int (iI x)), (2, .int (iI p)), (3, .int (iI z))] [.ref (pl 203)] _ _ _ _
      refine pm_e_sim pm_a117_18 rfl ?_
      show pm_E _ _ _ 19 [(0, .ref (pl 203)), (1, .int (iI x)), (2, .int (iI p)), (3, .int (iI z))] [.int (iI z), .ref (pl 203)] _ _ _ _
      refine pm_e_sim pm_a117_19 rfl ?_
      show pm_E _ _ _ 20 [(0, .ref (pl 203)), (1, .int (iI x)), (2, .int (iI p)), (3, .int (iI z))] [.ref (pl 203), .int (iI z), .ref (pl 203)] _ _ _ _
      refine pm_e_sim pm_a117_20 rfl ?_
      show pm_E _ _ _ 21 [(0, .ref (pl 203)), (1, .int (iI x)), (2, .int (iI p)), (3, .int (iI z))] [.ref (pl 203), .ref (pl 203), .int (iI z), .ref (pl 203)] _ _ _ _
      refine pm_i_get pm_a117_21 rfl (cg_203 hW h203) rfl ?_
      show pm_E _ _ _ 24 [(0, .ref (pl 203)), (1, .int (iI x)), (2, .int (iI p)), (3, .int (iI z))] [.ref (pl 6), .ref (pl 203), .int (iI z), .ref (pl 203)] _ _ _ _
      refine pm_e_sim pm_a117_24 rfl ?_
      show pm_E _ _ _ 25 [(0, .ref (pl 203)), (1, .int (iI x)), (2, .int (iI p)), (3, .int (iI z))] [.int (iI p), .ref (pl 6), .ref (pl 203), .int (iI z), .ref (pl 203)] _ _ _ _
      refine pm_i_callv (k := (pl 6)) (T2 := pm_mm75) pm_a117_25 rfl rfl rfl (cg_6 hW) ⟨Nat.le_of_ble_eq_true rfl, Nat.le_of_ble_eq_true rfl, rfl, by decide +kernel⟩ ?_
      show pm_E none _ _ 0 [(0, .ref (pl 6)), (1, .int (iI p))] [] _ _ _ _
      refine C_depthOf hW ⟨by omega, by omega⟩ ?_
      refine pm_e_top (y := iI (D p)) (congrArg iI hsd) ?_
      show pm_E _ _ _ 28 [(0, .ref (pl 203)), (1, .int (iI x)), (2, .int (iI p)), (3, .int (iI z))] [.int (iI (D p)), .ref (pl 203), .int (iI z), .ref (pl 203)] _ _ _ _
      refine pm_i_callv (k := (pl 203)) (T2 := pm_mm119) pm_a117_28 rfl rfl rfl (cg_203 hW h203) ⟨Nat.le_of_ble_eq_true rfl, Nat.le_of_ble_eq_true rfl, rfl, by decide +kernel⟩ ?_
      show pm_E none _ _ 0 [(0, .ref (pl 203)), (1, .int (iI (D p)))] [] _ _ _ _
      refine C_ztypeOfLambda hW h203 hG (by omega) (by omega) (by omega) ⟨by omega, by omega⟩ (fun s1 a1 rt1 S1 S2 hG1 eK1 o1 o2 o3 ew1 ef1 eb1 fs1 fa1 => ?_)
      show pm_E _ _ _ 31 [(0, .ref (pl 203)), (1, .int (iI x)), (2, .int (iI p)), (3, .int (iI z))] [.int (iI (s 20 + 2)), .int (iI z), .ref (pl 203)] _ _ _ _
      refine pm_i_callv (k := (pl 203)) (T2 := pm_mm120) pm_a117_31 rfl rfl rfl (cg_203 hW h203) ⟨Nat.le_of_ble_eq_true rfl, Nat.le_of_ble_eq_true rfl, rfl, by decide +kernel⟩ ?_
      show pm_E none _ _ 0 [(0, .ref (pl 203)), (1, .int (iI z)), (2, .int (iI (s 20 + 2)))] [] _ _ _ _
      refine C_zjoinAll hW h203 (by omega) hG1 ⟨by omega, by omega⟩ ⟨by omega, by omega⟩ (fun a2 rt2 fr2 hG2 hS2 => ?_)
      show pm_E _ _ _ 34 [(0, .ref (pl 203)), (1, .int (iI x)), (2, .int (iI p)), (3, .int (iI z))] [] _ _ _ _
      refine pm_e_goto pm_a117_34 rfl ?_
      show pm_E _ _ _ 77 [(0, .ref (pl 203)), (1, .int (iI x)), (2, .int (iI p)), (3, .int (iI z))] [] _ _ _ _
      refine pm_e_ret pm_a117_77 rfl rfl rfl rfl rfl rfl rfl rfl ?_
      rw [eK1] at hG2 hS2 o3
      have hT1 := TI_lam hT (by omega) hG2 o1 o2 o3 hS2
      refine k s1 a2 rt2 ?_ (by omega) fs1 (fun j q9 q10 q11 q12 q14 q15 => by rw [fr2 j q11 q12]; exact fa1 j q9 q10 q11 q14 q15)
      rw [eK1, fr2 9 (by omega) (by omega), fr2 10 (by omega) (by omega), fr2 14 (by omega) (by omega), fr2 15 (by omega) (by omega), ef1, ew1, eb1, ws9_put hw]; exact hT1
  · skip
    show pm_E _ _ _ 4 [(0, .ref (pl 203)), (1, .int (iI x)), (2, .int (iI p)), (3, .int (iI z))] [] _ _ _ _
    refine pm_e_sim pm_a117_4 rfl ?_
    show pm_E _ _ _ 5 [(0, .ref (pl 203)), (1, .int (iI x)), (2, .int (iI p)), (3, .int (iI z))] [.ref (pl 203)] _ _ _ _
    refine pm_e_sim pm_a117_5 rfl ?_
    show pm_E _ _ _ 6 [(0, .ref (pl 203)), (1, .int (iI x)), (2, .int (iI p)), (3, .int (iI z))] [.int (iI z), .ref (pl 203)] _ _ _ _
    refine pm_i_callv (k := (pl 203)) (T2 := pm_mm118) pm_a117_6 rfl rfl rfl (cg_203 hW h203) ⟨Nat.le_of_ble_eq_true rfl, Nat.le_of_ble_eq_true rfl, rfl, by decide +kernel⟩ ?_
    show pm_E none _ _ 0 [(0, .ref (pl 203)), (1, .int (iI z))] [] _ _ _ _
    refine C_ztypeApply hW h203 hG (by omega) (by omega) (by omega) hz (fun s1 a1 rt1 S1 hG1 eK1 o1 o2 ew1 ef1 fs1 fa1 => ?_)
    show pm_E _ _ _ 9 [(0, .ref (pl 203)), (1, .int (iI x)), (2, .int (iI p)), (3, .int (iI z))] [] _ _ _ _
    refine pm_e_goto pm_a117_9 rfl ?_
    show pm_E _ _ _ 77 [(0, .ref (pl 203)), (1, .int (iI x)), (2, .int (iI p)), (3, .int (iI z))] [] _ _ _ _
    refine pm_e_ret pm_a117_77 rfl rfl rfl rfl rfl rfl rfl rfl ?_
    rw [eK1] at hG1 o2
    have hT1 := TI_app hT (by omega) hG1 o1 o2
    refine k s1 a1 rt1 ?_ (by omega) fs1 (fun j q9 q10 q11 _ _ q15 => fa1 j q9 q10 q11 q15)
    rw [eK1, ef1, ew1, ws9_2 hw, fa1 14 (by omega) (by omega) (by omega) (by omega)]; exact hT1
