/-! THE CLASS: Reader: the code of the items, readInto -/
set_option maxHeartbeats 4000000 in
set_option maxRecDepth 100000 in
theorem C_r_num_l {d n : Nat} {kd pl : Nat → Nat} {s : Nat → Int} {a : Nat → Int → Int} {M : List va_E} {Q : Option Value → List va_E → Nat → Nat → Prop} {j : Nat} {v : Int} (hW : wf n kd pl) (hj : j < 38 ∧ al n kd pl (60 + 2 * j)) (hv : v ≤ 20) : ∀ (f : Nat) (i : Int) (c : Nat → cdt) (l : List Int), 0 ≤ i → i ≤ v → md (c j) (rm j) l → (∀ y, md y (rm j) (l ++ numc (v - i).toNat) → Q none (ch n kd pl s a (updC c j y) M) 0 0) → v - i < (f : Int) → pm_E none (d + 1) pm_mm41 12 [(0, .int (iI v)), (1, .ref (pl (60 + 2 * j))), (2, .int (iI i))] [] (ch n kd pl s a c M) 0 0 Q := by
  intro f
  induction f with
  | zero =>
    intro i c l hi0 hi1 hmd k hf
    exfalso; omega
  | succ f ih =>
    intro i c l hi0 hi1 hmd k hf
    refine pm_e_sim pm_a41_12 rfl ?_
    show pm_E _ _ _ 13 [(0, .int (iI v)), (1, .ref (pl (60 + 2 * j))), (2, .int (iI i))] [.int (iI i)] _ _ _ _
    refine pm_e_sim pm_a41_13 rfl ?_
    show pm_E _ _ _ 14 [(0, .int (iI v)), (1, .ref (pl (60 + 2 * j))), (2, .int (iI i))] [.int (iI v), .int (iI i)] _ _ _ _
    refine pm_c_ge (t := 34) pm_a41_14 rfl ⟨by omega, by omega⟩ ⟨by omega, by omega⟩ (fun h_1 => ?_) (fun h_1 => ?_)
    · skip
      show pm_E _ _ _ 34 [(0, .int (iI v)), (1, .ref (pl (60 + 2 * j))), (2, .int (iI i))] [] _ _ _ _
      refine pm_e_sim pm_a41_34 rfl ?_
      show pm_E _ _ _ 35 [(0, .int (iI v)), (1, .ref (pl (60 + 2 * j))), (2, .int (iI i))] [.ref (pl (60 + 2 * j))] _ _ _ _
      refine pm_e_sim pm_a41_35 rfl ?_
      refine pm_e_top (y := iI 10) (by decide +kernel) ?_
      show pm_E _ _ _ 37 [(0, .int (iI v)), (1, .ref (pl (60 + 2 * j))), (2, .int (iI i))] [.int (iI 10), .ref (pl (60 + 2 * j))] _ _ _ _
      refine pm_i_callv (k := (pl (60 + 2 * j))) (T2 := pm_mm40) pm_a41_37 rfl rfl rfl (cg_o hj) ⟨Nat.le_of_ble_eq_true rfl, Nat.le_of_ble_eq_true rfl, rfl, by decide +kernel⟩ ?_
      show pm_E none _ _ 0 [(0, .ref (pl (60 + 2 * j))), (1, .int (iI 10))] [] _ _ _ _
      refine C_put (l := l) hW hj hmd (by decide) (fun y_2 g_2 => ?_)
      show pm_E _ _ _ 40 [(0, .int (iI v)), (1, .ref (pl (60 + 2 * j))), (2, .int (iI i))] [] _ _ _ _
      refine pm_e_ret pm_a41_40 rfl rfl rfl rfl rfl rfl rfl rfl ?_
      refine k _ ?_
      rw [show (v - i).toNat = 0 by omega]
      exact g_2
    · skip
      show pm_E _ _ _ 17 [(0, .int (iI v)), (1, .ref (pl (60 + 2 * j))), (2, .int (iI i))] [] _ _ _ _
      refine pm_e_sim pm_a41_17 rfl ?_
      show pm_E _ _ _ 18 [(0, .int (iI v)), (1, .ref (pl (60 + 2 * j))), (2, .int (iI i))] [.ref (pl (60 + 2 * j))] _ _ _ _
      refine pm_e_sim pm_a41_18 rfl ?_
      refine pm_e_top (y := iI 0) (by decide +kernel) ?_
      show pm_E _ _ _ 19 [(0, .int (iI v)), (1, .ref (pl (60 + 2 * j))), (2, .int (iI i))] [.int (iI 0), .ref (pl (60 + 2 * j))] _ _ _ _
      refine pm_i_callv (k := (pl (60 + 2 * j))) (T2 := pm_mm40) pm_a41_19 rfl rfl rfl (cg_o hj) ⟨Nat.le_of_ble_eq_true rfl, Nat.le_of_ble_eq_true rfl, rfl, by decide +kernel⟩ ?_
      show pm_E none _ _ 0 [(0, .ref (pl (60 + 2 * j))), (1, .int (iI 0))] [] _ _ _ _
      refine C_put (l := l) hW hj hmd (by decide) (fun y_3 g_3 => ?_)
      show pm_E _ _ _ 22 [(0, .int (iI v)), (1, .ref (pl (60 + 2 * j))), (2, .int (iI i))] [] _ _ _ _
      refine pm_e_sim pm_a41_22 rfl ?_
      show pm_E _ _ _ 23 [(0, .int (iI v)), (1, .ref (pl (60 + 2 * j))), (2, .int (iI i))] [.ref (pl (60 + 2 * j))] _ _ _ _
      refine pm_e_sim pm_a41_23 rfl ?_
      refine pm_e_top (y := iI 11) (by decide +kernel) ?_
      show pm_E _ _ _ 25 [(0, .int (iI v)), (1, .ref (pl (60 + 2 * j))), (2, .int (iI i))] [.int (iI 11), .ref (pl (60 + 2 * j))] _ _ _ _
      refine pm_i_callv (k := (pl (60 + 2 * j))) (T2 := pm_mm40) pm_a41_25 rfl rfl rfl (cg_o hj) ⟨Nat.le_of_ble_eq_true rfl, Nat.le_of_ble_eq_true rfl, rfl, by decide +kernel⟩ ?_
      show pm_E none _ _ 0 [(0, .ref (pl (60 + 2 * j))), (1, .int (iI 11))] [] _ _ _ _
      refine C_put (l := (l ++ [0])) hW hj (by rw [updC_at]; exact g_3) (by decide) (fun y_4 g_4 => ?_)
      show pm_E _ _ _ 28 [(0, .int (iI v)), (1, .ref (pl (60 + 2 * j))), (2, .int (iI i))] [] _ _ _ _
      refine pm_e_inc (y := iI (i + 1)) pm_a41_28 rfl (iI_add _ _) (by decide +kernel) rfl ?_
      show pm_E _ _ _ 31 [(0, .int (iI v)), (1, .ref (pl (60 + 2 * j))), (2, .int (iI (i + 1)))] [] _ _ _ _
      refine pm_e_goto pm_a41_31 rfl ?_
      show pm_E _ _ _ 12 [(0, .int (iI v)), (1, .ref (pl (60 + 2 * j))), (2, .int (iI (i + 1)))] [] _ _ _ _
      refine ih (i + 1) _ _ (by omega) (by omega) (by rw [updC_at]; exact g_4) (fun y g => ?_) (by omega)
      rw [updC_s, updC_s]
      refine k y ?_
      rw [show (v - i).toNat = (v - (i + 1)).toNat + 1 by omega]
      have e9 : l ++ numc ((v - (i + 1)).toNat + 1) = l ++ [0] ++ [11] ++ numc (v - (i + 1)).toNat := by show l ++ (0 :: 11 :: numc (v - (i + 1)).toNat) = _; simp
      rw [e9]
      exact g
set_option maxHeartbeats 4000000 in
set_option maxRecDepth 100000 in
theorem C_r_putNumber {d n : Nat} {kd pl : Nat → Nat} {s : Nat → Int} {a : Nat → Int → Int} {M : List va_E} {Q : Option Value → List va_E → Nat → Nat → Prop} {j : Nat} {c : Nat → cdt} {v : Int} {l : List Int} (hW : wf n kd pl) (hj : j < 38 ∧ al n kd pl (60 + 2 * j)) (hv0 : 0 ≤ v) (hv : v ≤ 20) (hmd : md (c j) (rm j) l) (k : ∀ y, md y (rm j) (l ++ ([1, 1] ++ numc v.toNat)) → Q none (ch n kd pl s a (updC c j y) M) 0 0) : pm_E none (d + 1) pm_mm41 0 [(0, .int (iI v)), (1, .ref (pl (60 + 2 * j)))] [] (ch n kd pl s a c M) 0 0 Q := by
  refine pm_e_sim pm_a41_0 rfl ?_
  show pm_E _ _ _ 1 [(0, .int (iI v)), (1, .ref (pl (60 + 2 * j)))] [.ref (pl (60 + 2 * j))] _ _ _ _
  refine pm_e_sim pm_a41_1 rfl ?_
  refine pm_e_top (y := iI 1) (by decide +kernel) ?_
  show pm_E _ _ _ 2 [(0, .int (iI v)), (1, .ref (pl (60 + 2 * j)))] [.int (iI 1), .ref (pl (60 + 2 * j))] _ _ _ _
  refine pm_i_callv (k := (pl (60 + 2 * j))) (T2 := pm_mm40) pm_a41_2 rfl rfl rfl (cg_o hj) ⟨Nat.le_of_ble_eq_true rfl, Nat.le_of_ble_eq_true rfl, rfl, by decide +kernel⟩ ?_
  show pm_E none _ _ 0 [(0, .ref (pl (60 + 2 * j))), (1, .int (iI 1))] [] _ _ _ _
  refine C_put (l := l) hW hj hmd (by decide) (fun y_1 g_1 => ?_)
  show pm_E _ _ _ 5 [(0, .int (iI v)), (1, .ref (pl (60 + 2 * j)))] [] _ _ _ _
  refine pm_e_sim pm_a41_5 rfl ?_
  show pm_E _ _ _ 6 [(0, .int (iI v)), (1, .ref (pl (60 + 2 * j)))] [.ref (pl (60 + 2 * j))] _ _ _ _
  refine pm_e_sim pm_a41_6 rfl ?_
  refine pm_e_top (y := iI 1) (by decide +kernel) ?_
  show pm_E _ _ _ 7 [(0, .int (iI v)), (1, .ref (pl (60 + 2 * j)))] [.int (iI 1), .ref (pl (60 + 2 * j))] _ _ _ _
  refine pm_i_callv (k := (pl (60 + 2 * j))) (T2 := pm_mm40) pm_a41_7 rfl rfl rfl (cg_o hj) ⟨Nat.le_of_ble_eq_true rfl, Nat.le_of_ble_eq_true rfl, rfl, by decide +kernel⟩ ?_
  show pm_E none _ _ 0 [(0, .ref (pl (60 + 2 * j))), (1, .int (iI 1))] [] _ _ _ _
  refine C_put (l := (l ++ [1])) hW hj (by rw [updC_at]; exact g_1) (by decide) (fun y_2 g_2 => ?_)
  show pm_E _ _ _ 10 [(0, .int (iI v)), (1, .ref (pl (60 + 2 * j)))] [] _ _ _ _
  refine pm_e_sim pm_a41_10 rfl ?_
  refine pm_e_top (y := iI 0) (by decide +kernel) ?_
  show pm_E _ _ _ 11 [(0, .int (iI v)), (1, .ref (pl (60 + 2 * j)))] [.int (iI 0)] _ _ _ _
  refine pm_e_sim pm_a41_11 rfl ?_
  show pm_E _ _ _ 12 [(0, .int (iI v)), (1, .ref (pl (60 + 2 * j))), (2, .int (iI 0))] [] _ _ _ _
  refine C_r_num_l hW hj hv 22 0 _ _ (by omega) (by omega) (by rw [updC_at]; exact g_2) (fun y g => ?_) (by omega)
  rw [updC_s, updC_s]
  refine k y ?_
  rw [show v - 0 = v by omega] at g
  have e9 : l ++ ([1, 1] ++ numc v.toNat) = l ++ [1] ++ [1] ++ numc v.toNat := by simp
  rw [e9]
  exact g
set_option maxHeartbeats 4000000 in
set_option maxRecDepth 100000 in
theorem C_r_zer_l {d n : Nat} {kd pl : Nat → Nat} {s : Nat → Int} {a : Nat → Int → Int} {M : List va_E} {Q : Option Value → List va_E → Nat → Nat → Prop} {j : Nat} {x : Int} (hW : wf n kd pl) (hj : j < 38 ∧ al n kd pl (60 + 2 * j)) : ∀ (f : Nat) (p : Int) (c : Nat → cdt) (l : List Int), 0 ≤ p → p ≤ 600 → md (c j) (rm j) l → (∀ y, md y (rm j) (l ++ List.replicate (p - 1).toNat 0) → Q none (ch n kd pl s a (updC c j y) M) 0 0) → p < (f : Int) → pm_E none (d + 2) pm_mm39 7 [(0, .int (iI x)), (1, .ref (pl (60 + 2 * j))), (2, .int (iI p))] [] (ch n kd pl s a c M) 0 0 Q := by
  intro f
  induction f with
  | zero =>
    intro p c l hp0 hp1 hmd k hf
    exfalso; omega
  | succ f ih =>
    intro p c l hp0 hp1 hmd k hf
    refine pm_e_sim pm_a39_7 rfl ?_
    show pm_E _ _ _ 8 [(0, .int (iI x)), (1, .ref (pl (60 + 2 * j))), (2, .int (iI p))] [.int (iI p)] _ _ _ _
    refine pm_e_sim pm_a39_8 rfl ?_
    refine pm_e_top (y := iI 1) (by decide +kernel) ?_
    show pm_E _ _ _ 9 [(0, .int (iI x)), (1, .ref (pl (60 + 2 * j))), (2, .int (iI p))] [.int (iI 1), .int (iI p)] _ _ _ _
    refine pm_c_le (t := 23) pm_a39_9 rfl ⟨by omega, by omega⟩ ⟨by omega, by omega⟩ (fun h_1 => ?_) (fun h_1 => ?_)
    · skip
      show pm_E _ _ _ 23 [(0, .int (iI x)), (1, .ref (pl (60 + 2 * j))), (2, .int (iI p))] [] _ _ _ _
      refine pm_e_goto pm_a39_23 rfl ?_
      show pm_E _ _ _ 50 [(0, .int (iI x)), (1, .ref (pl (60 + 2 * j))), (2, .int (iI p))] [] _ _ _ _
      refine pm_e_ret pm_a39_50 rfl rfl rfl rfl rfl rfl rfl rfl ?_
      have e9 := k (c j) (by rw [show (p - 1).toNat = 0 by omega, List.replicate_zero, List.append_nil]; exact hmd)
      rw [updC_self] at e9
      exact e9
    · skip
      show pm_E _ _ _ 12 [(0, .int (iI x)), (1, .ref (pl (60 + 2 * j))), (2, .int (iI p))] [] _ _ _ _
      refine pm_e_sim pm_a39_12 rfl ?_
      show pm_E _ _ _ 13 [(0, .int (iI x)), (1, .ref (pl (60 + 2 * j))), (2, .int (iI p))] [.ref (pl (60 + 2 * j))] _ _ _ _
      refine pm_e_sim pm_a39_13 rfl ?_
      refine pm_e_top (y := iI 0) (by decide +kernel) ?_
      show pm_E _ _ _ 14 [(0, .int (iI x)), (1, .ref (pl (60 + 2 * j))), (2, .int (iI p))] [.int (iI 0), .ref (pl (60 + 2 * j))] _ _ _ _
      refine pm_i_callv (k := (pl (60 + 2 * j))) (T2 := pm_mm40) pm_a39_14 rfl rfl rfl (cg_o hj) ⟨Nat.le_of_ble_eq_true rfl, Nat.le_of_ble_eq_true rfl, rfl, by decide +kernel⟩ ?_
      show pm_E none _ _ 0 [(0, .ref (pl (60 + 2 * j))), (1, .int (iI 0))] [] _ _ _ _
      refine C_put (l := l) hW hj hmd (by decide) (fun y_2 g_2 => ?_)
      show pm_E _ _ _ 17 [(0, .int (iI x)), (1, .ref (pl (60 + 2 * j))), (2, .int (iI p))] [] _ _ _ _
      refine pm_e_inc (y := iI (p + (-1))) pm_a39_17 rfl (iI_add _ _) (by decide +kernel) rfl ?_
      show pm_E _ _ _ 20 [(0, .int (iI x)), (1, .ref (pl (60 + 2 * j))), (2, .int (iI (p + (-1))))] [] _ _ _ _
      refine pm_e_goto pm_a39_20 rfl ?_
      show pm_E _ _ _ 7 [(0, .int (iI x)), (1, .ref (pl (60 + 2 * j))), (2, .int (iI (p + (-1))))] [] _ _ _ _
      refine ih (p + -1) _ _ (by omega) (by omega) (by rw [updC_at]; exact g_2) (fun y g => ?_) (by omega)
      rw [updC_s]
      refine k y ?_
      have e9 : l ++ List.replicate (p - 1).toNat 0 = l ++ [0] ++ List.replicate (p + -1 - 1).toNat 0 := by rw [show (p - 1).toNat = (p + -1 - 1).toNat + 1 by omega, List.replicate_succ]; simp
      rw [e9]
      exact g
set_option maxHeartbeats 4000000 in
set_option maxRecDepth 100000 in
theorem C_r_putItemCode {d n : Nat} {kd pl : Nat → Nat} {s : Nat → Int} {a : Nat → Int → Int} {M : List va_E} {Q : Option Value → List va_E → Nat → Nat → Prop} {j : Nat} {c : Nat → cdt} {x : Int} {l : List Int} (hW : wf n kd pl) (hj : j < 38 ∧ al n kd pl (60 + 2 * j)) (hx0 : -600 ≤ x) (hx : x ≤ 1020) (hmd : md (c j) (rm j) l) (k : ∀ y, md y (rm j) (l ++ ex1 x) → Q none (ch n kd pl s a (updC c j y) M) 0 0) : pm_E none (d + 2) pm_mm39 0 [(0, .int (iI x)), (1, .ref (pl (60 + 2 * j)))] [] (ch n kd pl s a c M) 0 0 Q := by
  refine pm_e_sim pm_a39_0 rfl ?_
  show pm_E _ _ _ 1 [(0, .int (iI x)), (1, .ref (pl (60 + 2 * j)))] [.int (iI x)] _ _ _ _
  refine pm_i_ge (t := 26) pm_a39_1 rfl ⟨by omega, by omega⟩ (fun h_1 => ?_) (fun h_1 => ?_)
  · skip
    show pm_E _ _ _ 26 [(0, .int (iI x)), (1, .ref (pl (60 + 2 * j)))] [] _ _ _ _
    refine pm_e_sim pm_a39_26 rfl ?_
    show pm_E _ _ _ 27 [(0, .int (iI x)), (1, .ref (pl (60 + 2 * j)))] [.int (iI x)] _ _ _ _
    refine pm_e_sim pm_a39_27 rfl ?_
    refine pm_e_top (y := iI 1000) (by decide +kernel) ?_
    show pm_E _ _ _ 30 [(0, .int (iI x)), (1, .ref (pl (60 + 2 * j)))] [.int (iI 1000), .int (iI x)] _ _ _ _
    refine pm_c_lt (t := 45) pm_a39_30 rfl ⟨by omega, by omega⟩ ⟨by omega, by omega⟩ (fun h_2 => ?_) (fun h_2 => ?_)
    · skip
      show pm_E _ _ _ 45 [(0, .int (iI x)), (1, .ref (pl (60 + 2 * j)))] [] _ _ _ _
      refine pm_e_sim pm_a39_45 rfl ?_
      show pm_E _ _ _ 46 [(0, .int (iI x)), (1, .ref (pl (60 + 2 * j)))] [.ref (pl (60 + 2 * j))] _ _ _ _
      refine pm_e_sim pm_a39_46 rfl ?_
      show pm_E _ _ _ 47 [(0, .int (iI x)), (1, .ref (pl (60 + 2 * j)))] [.int (iI x), .ref (pl (60 + 2 * j))] _ _ _ _
      refine pm_i_callv (k := (pl (60 + 2 * j))) (T2 := pm_mm40) pm_a39_47 rfl rfl rfl (cg_o hj) ⟨Nat.le_of_ble_eq_true rfl, Nat.le_of_ble_eq_true rfl, rfl, by decide +kernel⟩ ?_
      show pm_E none _ _ 0 [(0, .ref (pl (60 + 2 * j))), (1, .int (iI x))] [] _ _ _ _
      refine C_put (l := l) hW hj hmd ⟨by omega, by omega⟩ (fun y_3 g_3 => ?_)
      show pm_E _ _ _ 50 [(0, .int (iI x)), (1, .ref (pl (60 + 2 * j)))] [] _ _ _ _
      refine pm_e_ret pm_a39_50 rfl rfl rfl rfl rfl rfl rfl rfl ?_
      have e9 : ex1 x = [x] := by unfold ex1; rw [if_neg (by omega), if_neg (by omega)]
      rw [e9] at k
      exact k _ g_3
    · skip
      show pm_E _ _ _ 33 [(0, .int (iI x)), (1, .ref (pl (60 + 2 * j)))] [] _ _ _ _
      refine pm_e_sim pm_a39_33 rfl ?_
      show pm_E _ _ _ 34 [(0, .int (iI x)), (1, .ref (pl (60 + 2 * j)))] [.int (iI x)] _ _ _ _
      refine pm_e_sim pm_a39_34 rfl ?_
      refine pm_e_top (y := iI 1000) (by decide +kernel) ?_
      show pm_E _ _ _ 37 [(0, .int (iI x)), (1, .ref (pl (60 + 2 * j)))] [.int (iI 1000), .int (iI x)] _ _ _ _
      refine pm_e_sim pm_a39_37 rfl ?_
      refine pm_e_top (y := iI (x - 1000)) (iI_sub _ _) ?_
      show pm_E _ _ _ 38 [(0, .int (iI x)), (1, .ref (pl (60 + 2 * j)))] [.int (iI (x - 1000))] _ _ _ _
      refine pm_e_sim pm_a39_38 rfl ?_
      show pm_E _ _ _ 39 [(0, .int (iI x)), (1, .ref (pl (60 + 2 * j)))] [.ref (pl (60 + 2 * j)), .int (iI (x - 1000))] _ _ _ _
      refine pm_e_call (T2 := pm_mm41) pm_a39_39 rfl rfl rfl rfl rfl rfl rfl rfl rfl ?_
      show pm_E none _ _ 0 [(0, .int (iI (x - 1000))), (1, .ref (pl (60 + 2 * j)))] [] _ _ _ _
      have e9 : ex1 x = [1, 1] ++ numc (x - 1000).toNat := by unfold ex1; rw [if_neg (by omega), if_pos (by omega)]
      rw [e9] at k
      refine C_r_putNumber hW hj (by omega) (by omega) hmd (fun y g => ?_)
      show pm_E _ _ _ 42 [(0, .int (iI x)), (1, .ref (pl (60 + 2 * j)))] [] _ _ _ _
      refine pm_e_goto pm_a39_42 rfl ?_
      show pm_E _ _ _ 50 [(0, .int (iI x)), (1, .ref (pl (60 + 2 * j)))] [] _ _ _ _
      refine pm_e_ret pm_a39_50 rfl rfl rfl rfl rfl rfl rfl rfl ?_
      exact k y g
  · skip
    show pm_E _ _ _ 4 [(0, .int (iI x)), (1, .ref (pl (60 + 2 * j)))] [] _ _ _ _
    refine pm_e_sim pm_a39_4 rfl ?_
    show pm_E _ _ _ 5 [(0, .int (iI x)), (1, .ref (pl (60 + 2 * j)))] [.int (iI x)] _ _ _ _
    refine pm_e_sim pm_a39_5 rfl ?_
    refine pm_e_top (y := iI (-x)) (iI_neg _) ?_
    show pm_E _ _ _ 6 [(0, .int (iI x)), (1, .ref (pl (60 + 2 * j)))] [.int (iI (-x))] _ _ _ _
    refine pm_e_sim pm_a39_6 rfl ?_
    show pm_E _ _ _ 7 [(0, .int (iI x)), (1, .ref (pl (60 + 2 * j))), (2, .int (iI (-x)))] [] _ _ _ _
    have e9 : ex1 x = List.replicate (-x - 1).toNat 0 := by unfold ex1; rw [if_pos (by omega)]
    rw [e9] at k
    exact C_r_zer_l hW hj 602 (-x) c l (by omega) (by omega) hmd k (by omega)
theorem exs_take {t : List Int} {i : Nat} (h : i < t.length) : exs (t.take (i + 1)) = exs (t.take i) ++ ex1 t[i] := by
  rw [List.take_add_one, exs_app, List.getElem?_eq_getElem h]
  show exs (t.take i) ++ exs [t[i]] = _
  rw [exs_one]
theorem exs_le {t : List Int} {i : Nat} : (exs (t.take i)).length ≤ (exs t).length := by
  conv => rhs; rw [← List.take_append_drop i t]
  rw [exs_app, List.length_append]
  omega
set_option maxHeartbeats 4000000 in
set_option maxRecDepth 100000 in
theorem C_r_items_l {d n : Nat} {kd pl : Nat → Nat} {s : Nat → Int} {a : Nat → Int → Int} {M : List va_E} {Q : Option Value → List va_E → Nat → Nat → Prop} {j : Nat} {t : List Int} (hW : wf n kd pl) (hj : j < 38 ∧ al n kd pl (60 + 2 * j)) (h5 : s 5 = (t.length : Int)) (h5' : (t.length : Int) ≤ 601) (hrg : rg (a 3) t.length 0 = t) (hin : ∀ i, in32 (a 3 i)) (hbd : ∀ v ∈ t, -600 ≤ v ∧ v ≤ 1020) : ∀ (f : Nat) (i : Int) (c : Nat → cdt), 0 ≤ i → i ≤ t.length → md (c j) (rm j) (exs (t.take i.toNat)) → (∀ y, md y (rm j) (exs t) → y.2.1 = 0 → Q none (ch n kd pl s a (updC c j y) M) 0 0) → (rm j < (exs t).length → ∀ y s', okx (rm j) y → s' 12 = 5 → (∀ i, i ≠ 12 → s' i = s i) → Q none (ch n kd pl s' a (updC c j y) M) 0 0) → t.length - i < (f : Int) → pm_E none (d + 3) pm_mm38 2 [(0, .ref (pl 9)), (1, .ref (pl (60 + 2 * j))), (2, .int (iI i))] [] (ch n kd pl s a c M) 0 0 Q := by
  intro f
  induction f with
  | zero =>
    intro i c hi0 hi1 hmd k1 k0 hf
    exfalso; omega
  | succ f ih =>
    intro i c hi0 hi1 hmd k1 k0 hf
    obtain ⟨⟨o1, o2, o3, o4⟩, _⟩ := id hmd
    refine pm_e_sim pm_a38_2 rfl ?_
    show pm_E _ _ _ 3 [(0, .ref (pl 9)), (1, .ref (pl (60 + 2 * j))), (2, .int (iI i))] [.int (iI i)] _ _ _ _
    refine pm_e_sim pm_a38_3 rfl ?_
    show pm_E _ _ _ 4 [(0, .ref (pl 9)), (1, .ref (pl (60 + 2 * j))), (2, .int (iI i))] [.ref (pl 9), .int (iI i)] _ _ _ _
    refine pm_i_get pm_a38_4 rfl (cg_9 hW) rfl ?_
    show pm_E _ _ _ 7 [(0, .ref (pl 9)), (1, .ref (pl (60 + 2 * j))), (2, .int (iI i))] [.int (iI (s 5)), .int (iI i)] _ _ _ _
    refine pm_c_ge (t := 42) pm_a38_7 rfl ⟨by omega, by omega⟩ ⟨by omega, by omega⟩ (fun h_1 => ?_) (fun h_1 => ?_)
    · skip
      show pm_E _ _ _ 42 [(0, .ref (pl 9)), (1, .ref (pl (60 + 2 * j))), (2, .int (iI i))] [] _ _ _ _
      refine pm_e_sim pm_a38_42 rfl ?_
      show pm_E _ _ _ 43 [(0, .ref (pl 9)), (1, .ref (pl (60 + 2 * j))), (2, .int (iI i))] [.ref (pl (60 + 2 * j))] _ _ _ _
      refine pm_i_get pm_a38_43 rfl (cg_o hj) rfl ?_
      show pm_E _ _ _ 46 [(0, .ref (pl 9)), (1, .ref (pl (60 + 2 * j))), (2, .int (iI i))] [.int (iI ((c j).2.1))] _ _ _ _
      refine pm_i_eq (t := 54) pm_a38_46 rfl ⟨by omega, by omega⟩ (fun h_2 => ?_) (fun h_2 => ?_)
      · skip
        show pm_E _ _ _ 54 [(0, .ref (pl 9)), (1, .ref (pl (60 + 2 * j))), (2, .int (iI i))] [] _ _ _ _
        refine pm_e_ret pm_a38_54 rfl rfl rfl rfl rfl rfl rfl rfl ?_
        have e7 : t.take i.toNat = t := List.take_of_length_le (by omega)
        rw [e7] at hmd
        have e8 := k1 (c j) hmd (by omega)
        rw [updC_self] at e8
        exact e8
      · skip
        show pm_E _ _ _ 49 [(0, .ref (pl 9)), (1, .ref (pl (60 + 2 * j))), (2, .int (iI i))] [] _ _ _ _
        refine pm_e_sim pm_a38_49 rfl ?_
        show pm_E _ _ _ 50 [(0, .ref (pl 9)), (1, .ref (pl (60 + 2 * j))), (2, .int (iI i))] [.ref (pl 9)] _ _ _ _
        refine pm_e_sim pm_a38_50 rfl ?_
        refine pm_e_top (y := iI 5) (by decide +kernel) ?_
        show pm_E _ _ _ 51 [(0, .ref (pl 9)), (1, .ref (pl (60 + 2 * j))), (2, .int (iI i))] [.int (iI 5), .ref (pl 9)] _ _ _ _
        refine pm_i_put pm_a38_51 rfl (cg_9 hW) rfl (Nat.le_of_ble_eq_true rfl) (Or.inl rfl) (cw_12 hW 5) ?_
        show pm_E _ _ _ 54 [(0, .ref (pl 9)), (1, .ref (pl (60 + 2 * j))), (2, .int (iI i))] [] _ _ _ _
        refine pm_e_ret pm_a38_54 rfl rfl rfl rfl rfl rfl rfl rfl ?_
        obtain ⟨ok9, h9⟩ := hmd
        rcases h9 with ⟨_, h9, _⟩ | ⟨h9, _⟩
        · exfalso; omega
        have e8 := k0 (Nat.lt_of_lt_of_le h9 exs_le) (c j) (updS s 12 5) ok9 rfl (fun i n12 => updS_o n12)
        rw [updC_self] at e8
        exact e8
    · skip
      show pm_E _ _ _ 10 [(0, .ref (pl 9)), (1, .ref (pl (60 + 2 * j))), (2, .int (iI i))] [] _ _ _ _
      refine pm_e_sim pm_a38_10 rfl ?_
      show pm_E _ _ _ 11 [(0, .ref (pl 9)), (1, .ref (pl (60 + 2 * j))), (2, .int (iI i))] [.int (iI i)] _ _ _ _
      refine pm_e_sim pm_a38_11 rfl ?_
      show pm_E _ _ _ 12 [(0, .ref (pl 9)), (1, .ref (pl (60 + 2 * j))), (2, .int (iI i))] [.ref (pl 9), .int (iI i)] _ _ _ _
      refine pm_i_get pm_a38_12 rfl (cg_9 hW) rfl ?_
      show pm_E _ _ _ 15 [(0, .ref (pl 9)), (1, .ref (pl (60 + 2 * j))), (2, .int (iI i))] [.ref (pl 10), .int (iI i)] _ _ _ _
      refine pm_i_aln pm_a38_15 (cg_10 hW) ?_
      show pm_E _ _ _ 16 [(0, .ref (pl 9)), (1, .ref (pl (60 + 2 * j))), (2, .int (iI i))] [.int (iI 601), .int (iI i)] _ _ _ _
      refine pm_c_ge (t := 42) pm_a38_16 rfl ⟨by omega, by omega⟩ ⟨by omega, by omega⟩ (fun h_3 => ?_) (fun h_3 => ?_)
      · skip
        show pm_E _ _ _ 42 [(0, .ref (pl 9)), (1, .ref (pl (60 + 2 * j))), (2, .int (iI i))] [] _ _ _ _
        refine pm_e_sim pm_a38_42 rfl ?_
        show pm_E _ _ _ 43 [(0, .ref (pl 9)), (1, .ref (pl (60 + 2 * j))), (2, .int (iI i))] [.ref (pl (60 + 2 * j))] _ _ _ _
        refine pm_i_get pm_a38_43 rfl (cg_o hj) rfl ?_
        show pm_E _ _ _ 46 [(0, .ref (pl 9)), (1, .ref (pl (60 + 2 * j))), (2, .int (iI i))] [.int (iI ((c j).2.1))] _ _ _ _
        refine pm_i_eq (t := 54) pm_a38_46 rfl ⟨by omega, by omega⟩ (fun h_4 => ?_) (fun h_4 => ?_)
        · skip
          show pm_E _ _ _ 54 [(0, .ref (pl 9)), (1, .ref (pl (60 + 2 * j))), (2, .int (iI i))] [] _ _ _ _
          refine pm_e_ret pm_a38_54 rfl rfl rfl rfl rfl rfl rfl rfl ?_
          have e7 : t.take i.toNat = t := List.take_of_length_le (by omega)
          rw [e7] at hmd
          have e8 := k1 (c j) hmd (by omega)
          rw [updC_self] at e8
          exact e8
        · skip
          show pm_E _ _ _ 49 [(0, .ref (pl 9)), (1, .ref (pl (60 + 2 * j))), (2, .int (iI i))] [] _ _ _ _
          refine pm_e_sim pm_a38_49 rfl ?_
          show pm_E _ _ _ 50 [(0, .ref (pl 9)), (1, .ref (pl (60 + 2 * j))), (2, .int (iI i))] [.ref (pl 9)] _ _ _ _
          refine pm_e_sim pm_a38_50 rfl ?_
          refine pm_e_top (y := iI 5) (by decide +kernel) ?_
          show pm_E _ _ _ 51 [(0, .ref (pl 9)), (1, .ref (pl (60 + 2 * j))), (2, .int (iI i))] [.int (iI 5), .ref (pl 9)] _ _ _ _
          refine pm_i_put pm_a38_51 rfl (cg_9 hW) rfl (Nat.le_of_ble_eq_true rfl) (Or.inl rfl) (cw_12 hW 5) ?_
          show pm_E _ _ _ 54 [(0, .ref (pl 9)), (1, .ref (pl (60 + 2 * j))), (2, .int (iI i))] [] _ _ _ _
          refine pm_e_ret pm_a38_54 rfl rfl rfl rfl rfl rfl rfl rfl ?_
          obtain ⟨ok9, h9⟩ := hmd
          rcases h9 with ⟨_, h9, _⟩ | ⟨h9, _⟩
          · exfalso; omega
          have e8 := k0 (Nat.lt_of_lt_of_le h9 exs_le) (c j) (updS s 12 5) ok9 rfl (fun i n12 => updS_o n12)
          rw [updC_self] at e8
          exact e8
      · skip
        show pm_E _ _ _ 19 [(0, .ref (pl 9)), (1, .ref (pl (60 + 2 * j))), (2, .int (iI i))] [] _ _ _ _
        refine pm_e_sim pm_a38_19 rfl ?_
        show pm_E _ _ _ 20 [(0, .ref (pl 9)), (1, .ref (pl (60 + 2 * j))), (2, .int (iI i))] [.ref (pl (60 + 2 * j))] _ _ _ _
        refine pm_i_get pm_a38_20 rfl (cg_o hj) rfl ?_
        show pm_E _ _ _ 23 [(0, .ref (pl 9)), (1, .ref (pl (60 + 2 * j))), (2, .int (iI i))] [.int (iI ((c j).2.1))] _ _ _ _
        refine pm_i_ne (t := 42) pm_a38_23 rfl ⟨by omega, by omega⟩ (fun h_5 => ?_) (fun h_5 => ?_)
        · skip
          show pm_E _ _ _ 42 [(0, .ref (pl 9)), (1, .ref (pl (60 + 2 * j))), (2, .int (iI i))] [] _ _ _ _
          refine pm_e_sim pm_a38_42 rfl ?_
          show pm_E _ _ _ 43 [(0, .ref (pl 9)), (1, .ref (pl (60 + 2 * j))), (2, .int (iI i))] [.ref (pl (60 + 2 * j))] _ _ _ _
          refine pm_i_get pm_a38_43 rfl (cg_o hj) rfl ?_
          show pm_E _ _ _ 46 [(0, .ref (pl 9)), (1, .ref (pl (60 + 2 * j))), (2, .int (iI i))] [.int (iI ((c j).2.1))] _ _ _ _
          refine pm_i_eq (t := 54) pm_a38_46 rfl ⟨by omega, by omega⟩ (fun h_6 => ?_) (fun h_6 => ?_)
          · skip
            show pm_E _ _ _ 54 [(0, .ref (pl 9)), (1, .ref (pl (60 + 2 * j))), (2, .int (iI i))] [] _ _ _ _
            refine pm_e_ret pm_a38_54 rfl rfl rfl rfl rfl rfl rfl rfl ?_
            have e7 : t.take i.toNat = t := List.take_of_length_le (by omega)
            rw [e7] at hmd
            have e8 := k1 (c j) hmd (by omega)
            rw [updC_self] at e8
            exact e8
          · skip
            show pm_E _ _ _ 49 [(0, .ref (pl 9)), (1, .ref (pl (60 + 2 * j))), (2, .int (iI i))] [] _ _ _ _
            refine pm_e_sim pm_a38_49 rfl ?_
            show pm_E _ _ _ 50 [(0, .ref (pl 9)), (1, .ref (pl (60 + 2 * j))), (2, .int (iI i))] [.ref (pl 9)] _ _ _ _
            refine pm_e_sim pm_a38_50 rfl ?_
            refine pm_e_top (y := iI 5) (by decide +kernel) ?_
            show pm_E _ _ _ 51 [(0, .ref (pl 9)), (1, .ref (pl (60 + 2 * j))), (2, .int (iI i))] [.int (iI 5), .ref (pl 9)] _ _ _ _
            refine pm_i_put pm_a38_51 rfl (cg_9 hW) rfl (Nat.le_of_ble_eq_true rfl) (Or.inl rfl) (cw_12 hW 5) ?_
            show pm_E _ _ _ 54 [(0, .ref (pl 9)), (1, .ref (pl (60 + 2 * j))), (2, .int (iI i))] [] _ _ _ _
            refine pm_e_ret pm_a38_54 rfl rfl rfl rfl rfl rfl rfl rfl ?_
            obtain ⟨ok9, h9⟩ := hmd
            rcases h9 with ⟨_, h9, _⟩ | ⟨h9, _⟩
            · exfalso; omega
            have e8 := k0 (Nat.lt_of_lt_of_le h9 exs_le) (c j) (updS s 12 5) ok9 rfl (fun i n12 => updS_o n12)
            rw [updC_self] at e8
            exact e8
        · skip
          show pm_E _ _ _ 26 [(0, .ref (pl 9)), (1, .ref (pl (60 + 2 * j))), (2, .int (iI i))] [] _ _ _ _
          refine pm_e_sim pm_a38_26 rfl ?_
          show pm_E _ _ _ 27 [(0, .ref (pl 9)), (1, .ref (pl (60 + 2 * j))), (2, .int (iI i))] [.ref (pl 9)] _ _ _ _
          refine pm_i_get pm_a38_27 rfl (cg_9 hW) rfl ?_
          show pm_E _ _ _ 30 [(0, .ref (pl 9)), (1, .ref (pl (60 + 2 * j))), (2, .int (iI i))] [.ref (pl 10)] _ _ _ _
          refine pm_e_sim pm_a38_30 rfl ?_
          show pm_E _ _ _ 31 [(0, .ref (pl 9)), (1, .ref (pl (60 + 2 * j))), (2, .int (iI i))] [.int (iI i), .ref (pl 10)] _ _ _ _
          refine pm_i_ald pm_a38_31 (cg_10 hW) (by omega) (by omega) ⟨by omega, by omega⟩ ?_
          obtain ⟨_, _⟩ := hin (i)
          show pm_E _ _ _ 32 [(0, .ref (pl 9)), (1, .ref (pl (60 + 2 * j))), (2, .int (iI i))] [.int (iI ((a 3) (i)))] _ _ _ _
          refine pm_e_sim pm_a38_32 rfl ?_
          show pm_E _ _ _ 33 [(0, .ref (pl 9)), (1, .ref (pl (60 + 2 * j))), (2, .int (iI i))] [.ref (pl (60 + 2 * j)), .int (iI ((a 3) (i)))] _ _ _ _
          refine pm_e_call (T2 := pm_mm39) pm_a38_33 rfl rfl rfl rfl rfl rfl rfl rfl rfl ?_
          show pm_E none _ _ 0 [(0, .int (iI ((a 3) (i)))), (1, .ref (pl (60 + 2 * j)))] [] _ _ _ _
          have hi3 : i.toNat < t.length := by omega
          have ea : a 3 i = t[i.toNat] := by
            have h9 := rg_get (g := a 3) (l := t) (u := t.take i.toNat) (v := t.drop (i.toNat + 1)) (x := t[i.toNat]) hrg (by rw [List.getElem_cons_drop, List.take_append_drop])
            rw [List.length_take, show ((min i.toNat t.length : Nat) : Int) = i by omega] at h9
            exact h9
          obtain ⟨_, _⟩ := hbd t[i.toNat] (List.getElem_mem hi3)
          refine C_r_putItemCode (x := a 3 i) hW hj (by omega) (by omega) hmd (fun y g => ?_)
          show pm_E _ _ _ 36 [(0, .ref (pl 9)), (1, .ref (pl (60 + 2 * j))), (2, .int (iI i))] [] _ _ _ _
          refine pm_e_inc (y := iI (i + 1)) pm_a38_36 rfl (iI_add _ _) (by decide +kernel) rfl ?_
          show pm_E _ _ _ 39 [(0, .ref (pl 9)), (1, .ref (pl (60 + 2 * j))), (2, .int (iI (i + 1)))] [] _ _ _ _
          refine pm_e_goto pm_a38_39 rfl ?_
          show pm_E _ _ _ 2 [(0, .ref (pl 9)), (1, .ref (pl (60 + 2 * j))), (2, .int (iI (i + 1)))] [] _ _ _ _
          refine ih (i + 1) (updC c j y) (by omega) (by omega) ?_ (fun y2 g2 o2 => by rw [updC_s]; exact k1 y2 g2 o2) (fun z y2 s2 o2 e2 f2 => by rw [updC_s]; exact k0 z y2 s2 o2 e2 f2) (by omega)
          rw [updC_at, show (i + 1).toNat = i.toNat + 1 by omega, exs_take hi3, ← ea]
          exact g
set_option maxHeartbeats 4000000 in
set_option maxRecDepth 100000 in
theorem C_r_putItems {d n : Nat} {kd pl : Nat → Nat} {s : Nat → Int} {a : Nat → Int → Int} {M : List va_E} {Q : Option Value → List va_E → Nat → Nat → Prop} {j : Nat} {c : Nat → cdt} {t : List Int} (hW : wf n kd pl) (hj : j < 38 ∧ al n kd pl (60 + 2 * j)) (h5 : s 5 = (t.length : Int)) (h5' : (t.length : Int) ≤ 601) (hrg : rg (a 3) t.length 0 = t) (hin : ∀ i, in32 (a 3 i)) (hbd : ∀ v ∈ t, -600 ≤ v ∧ v ≤ 1020) (hmd : md (c j) (rm j) []) (k1 : ∀ y, md y (rm j) (exs t) → y.2.1 = 0 → Q none (ch n kd pl s a (updC c j y) M) 0 0) (k0 : rm j < (exs t).length → ∀ y s', okx (rm j) y → s' 12 = 5 → (∀ i, i ≠ 12 → s' i = s i) → Q none (ch n kd pl s' a (updC c j y) M) 0 0) : pm_E none (d + 3) pm_mm38 0 [(0, .ref (pl 9)), (1, .ref (pl (60 + 2 * j)))] [] (ch n kd pl s a c M) 0 0 Q := by
  refine pm_e_sim pm_a38_0 rfl ?_
  refine pm_e_top (y := iI 0) (by decide +kernel) ?_
  show pm_E _ _ _ 1 [(0, .ref (pl 9)), (1, .ref (pl (60 + 2 * j)))] [.int (iI 0)] _ _ _ _
  refine pm_e_sim pm_a38_1 rfl ?_
  show pm_E _ _ _ 2 [(0, .ref (pl 9)), (1, .ref (pl (60 + 2 * j))), (2, .int (iI 0))] [] _ _ _ _
  exact C_r_items_l hW hj h5 h5' hrg hin hbd 603 0 c (by omega) (by omega) hmd k1 k0 (by omega)
