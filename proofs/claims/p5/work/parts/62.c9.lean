/-! THE CLASS: isLike, hasCell, deepest, chainLength, numberOf, Tape -/
set_option maxHeartbeats 4000000 in
set_option maxRecDepth 100000 in
theorem C_isLike_l {d n : Nat} {kd pl : Nat → Nat} {s : Nat → Int} {a : Nat → Int → Int} {c : Nat → cdt} {M : List va_E} {Q : Option Value → List va_E → Nat → Nat → Prop} {j m : Nat} (hW : wf n kd pl) (hj : j < 38 ∧ al n kd pl (60 + 2 * j)) (hm : m < 38 ∧ al n kd pl (60 + 2 * m)) (hok : okx (rm j) (c j)) (hom : okx (rm m) (c m)) (k1 : (c j).1 = (c m).1 → (∀ q, 0 ≤ q → q < (c j).1 → atI (c j) q = atI (c m) q) → Q (some (.int (iI 1))) (ch n kd pl s a c M) 0 0) (k0 : ((c j).1 ≠ (c m).1 ∨ ∃ q, 0 ≤ q ∧ q < (c j).1 ∧ atI (c j) q ≠ atI (c m) q) → Q (some (.int (iI 0))) (ch n kd pl s a c M) 0 0) (he : (c j).1 = (c m).1) : ∀ (f : Nat) (i : Int), 0 ≤ i → i ≤ (c j).1 → (∀ q, 0 ≤ q → q < i → atI (c j) q = atI (c m) q) → (c j).1 - i < (f : Int) → pm_E none (d + 1) pm_mm62 15 [(0, .ref (pl (60 + 2 * j))), (1, .ref (pl (60 + 2 * m))), (2, .int (iI i))] [] (ch n kd pl s a c M) 0 0 Q := by
  intro f
  induction f with
  | zero =>
    intro i hi0 hi1 hi hf
    exfalso; omega
  | succ f ih =>
    intro i hi0 hi1 hi hf
    have rb := rm_b j
    obtain ⟨o1, o2, o3, o4⟩ := id hok
    have rb2 := rm_b m
    obtain ⟨q1, q2, q3, q4⟩ := id hom
    refine pm_e_sim pm_a62_15 rfl ?_
    show pm_E _ _ _ 16 [(0, .ref (pl (60 + 2 * j))), (1, .ref (pl (60 + 2 * m))), (2, .int (iI i))] [.int (iI i)] _ _ _ _
    refine pm_e_sim pm_a62_16 rfl ?_
    show pm_E _ _ _ 17 [(0, .ref (pl (60 + 2 * j))), (1, .ref (pl (60 + 2 * m))), (2, .int (iI i))] [.ref (pl (60 + 2 * j)), .int (iI i)] _ _ _ _
    refine pm_i_get pm_a62_17 rfl (cg_o hj) rfl ?_
    show pm_E _ _ _ 20 [(0, .ref (pl (60 + 2 * j))), (1, .ref (pl (60 + 2 * m))), (2, .int (iI i))] [.int (iI ((c j).1)), .int (iI i)] _ _ _ _
    refine pm_c_ge (t := 44) pm_a62_20 rfl ⟨by omega, by omega⟩ ⟨by omega, by omega⟩ (fun h_1 => ?_) (fun h_1 => ?_)
    · skip
      show pm_E _ _ _ 44 [(0, .ref (pl (60 + 2 * j))), (1, .ref (pl (60 + 2 * m))), (2, .int (iI i))] [] _ _ _ _
      refine pm_e_sim pm_a62_44 rfl ?_
      refine pm_e_top (y := iI 1) (by decide +kernel) ?_
      show pm_E _ _ _ 45 [(0, .ref (pl (60 + 2 * j))), (1, .ref (pl (60 + 2 * m))), (2, .int (iI i))] [.int (iI 1)] _ _ _ _
      refine pm_e_ret pm_a62_45 rfl rfl rfl rfl rfl rfl rfl rfl ?_
      exact k1 he (fun q a b => hi q a (by omega))
    · skip
      show pm_E _ _ _ 23 [(0, .ref (pl (60 + 2 * j))), (1, .ref (pl (60 + 2 * m))), (2, .int (iI i))] [] _ _ _ _
      refine pm_e_sim pm_a62_23 rfl ?_
      show pm_E _ _ _ 24 [(0, .ref (pl (60 + 2 * j))), (1, .ref (pl (60 + 2 * m))), (2, .int (iI i))] [.ref (pl (60 + 2 * j))] _ _ _ _
      refine pm_e_sim pm_a62_24 rfl ?_
      show pm_E _ _ _ 25 [(0, .ref (pl (60 + 2 * j))), (1, .ref (pl (60 + 2 * m))), (2, .int (iI i))] [.int (iI i), .ref (pl (60 + 2 * j))] _ _ _ _
      refine pm_i_callv (k := (pl (60 + 2 * j))) (T2 := pm_mm47) pm_a62_25 rfl rfl rfl (cg_o hj) ⟨Nat.le_of_ble_eq_true rfl, Nat.le_of_ble_eq_true rfl, rfl, by decide +kernel⟩ ?_
      show pm_E none _ _ 0 [(0, .ref (pl (60 + 2 * j))), (1, .int (iI i))] [] _ _ _ _
      refine C_at hW hj rfl hok.1 hok.2.1 ⟨by omega, by omega⟩ ?_
      obtain ⟨_, _⟩ := atI_in hok (i)
      show pm_E _ _ _ 28 [(0, .ref (pl (60 + 2 * j))), (1, .ref (pl (60 + 2 * m))), (2, .int (iI i))] [.int (iI (atI (c j) i))] _ _ _ _
      refine pm_e_sim pm_a62_28 rfl ?_
      show pm_E _ _ _ 29 [(0, .ref (pl (60 + 2 * j))), (1, .ref (pl (60 + 2 * m))), (2, .int (iI i))] [.ref (pl (60 + 2 * m)), .int (iI (atI (c j) i))] _ _ _ _
      refine pm_e_sim pm_a62_29 rfl ?_
      show pm_E _ _ _ 30 [(0, .ref (pl (60 + 2 * j))), (1, .ref (pl (60 + 2 * m))), (2, .int (iI i))] [.int (iI i), .ref (pl (60 + 2 * m)), .int (iI (atI (c j) i))] _ _ _ _
      refine pm_i_callv (k := (pl (60 + 2 * m))) (T2 := pm_mm47) pm_a62_30 rfl rfl rfl (cg_o hm) ⟨Nat.le_of_ble_eq_true rfl, Nat.le_of_ble_eq_true rfl, rfl, by decide +kernel⟩ ?_
      show pm_E none _ _ 0 [(0, .ref (pl (60 + 2 * m))), (1, .int (iI i))] [] _ _ _ _
      refine C_at hW hm rfl hom.1 hom.2.1 ⟨by omega, by omega⟩ ?_
      obtain ⟨_, _⟩ := atI_in hom (i)
      show pm_E _ _ _ 33 [(0, .ref (pl (60 + 2 * j))), (1, .ref (pl (60 + 2 * m))), (2, .int (iI i))] [.int (iI (atI (c m) i)), .int (iI (atI (c j) i))] _ _ _ _
      refine pm_c_eq (t := 38) pm_a62_33 rfl ⟨by omega, by omega⟩ ⟨by omega, by omega⟩ (fun h_2 => ?_) (fun h_2 => ?_)
      · skip
        show pm_E _ _ _ 38 [(0, .ref (pl (60 + 2 * j))), (1, .ref (pl (60 + 2 * m))), (2, .int (iI i))] [] _ _ _ _
        refine pm_e_inc (y := iI (i + 1)) pm_a62_38 rfl (iI_add _ _) (by decide +kernel) rfl ?_
        show pm_E _ _ _ 41 [(0, .ref (pl (60 + 2 * j))), (1, .ref (pl (60 + 2 * m))), (2, .int (iI (i + 1)))] [] _ _ _ _
        refine pm_e_goto pm_a62_41 rfl ?_
        show pm_E _ _ _ 15 [(0, .ref (pl (60 + 2 * j))), (1, .ref (pl (60 + 2 * m))), (2, .int (iI (i + 1)))] [] _ _ _ _
        refine ih _ (by omega) (by omega) (fun q a b => ?_) (by omega)
        by_cases hq : q = i
        · rw [hq]; omega
        · exact hi q a (by omega)
      · skip
        show pm_E _ _ _ 36 [(0, .ref (pl (60 + 2 * j))), (1, .ref (pl (60 + 2 * m))), (2, .int (iI i))] [] _ _ _ _
        refine pm_e_sim pm_a62_36 rfl ?_
        refine pm_e_top (y := iI 0) (by decide +kernel) ?_
        show pm_E _ _ _ 37 [(0, .ref (pl (60 + 2 * j))), (1, .ref (pl (60 + 2 * m))), (2, .int (iI i))] [.int (iI 0)] _ _ _ _
        refine pm_e_ret pm_a62_37 rfl rfl rfl rfl rfl rfl rfl rfl ?_
        exact k0 (Or.inr ⟨i, by omega, by omega, by omega⟩)
set_option maxHeartbeats 4000000 in
set_option maxRecDepth 100000 in
theorem C_isLike {d n : Nat} {kd pl : Nat → Nat} {s : Nat → Int} {a : Nat → Int → Int} {c : Nat → cdt} {M : List va_E} {Q : Option Value → List va_E → Nat → Nat → Prop} {j m : Nat} (hW : wf n kd pl) (hj : j < 38 ∧ al n kd pl (60 + 2 * j)) (hm : m < 38 ∧ al n kd pl (60 + 2 * m)) (hok : okx (rm j) (c j)) (hom : okx (rm m) (c m)) (k1 : (c j).1 = (c m).1 → (∀ q, 0 ≤ q → q < (c j).1 → atI (c j) q = atI (c m) q) → Q (some (.int (iI 1))) (ch n kd pl s a c M) 0 0) (k0 : ((c j).1 ≠ (c m).1 ∨ ∃ q, 0 ≤ q ∧ q < (c j).1 ∧ atI (c j) q ≠ atI (c m) q) → Q (some (.int (iI 0))) (ch n kd pl s a c M) 0 0) : pm_E none (d + 1) pm_mm62 0 [(0, .ref (pl (60 + 2 * j))), (1, .ref (pl (60 + 2 * m)))] [] (ch n kd pl s a c M) 0 0 Q := by
  have rb := rm_b j
  obtain ⟨o1, o2, o3, o4⟩ := id hok
  have rb2 := rm_b m
  obtain ⟨q1, q2, q3, q4⟩ := id hom
  refine pm_e_sim pm_a62_0 rfl ?_
  show pm_E _ _ _ 1 [(0, .ref (pl (60 + 2 * j))), (1, .ref (pl (60 + 2 * m)))] [.ref (pl (60 + 2 * j))] _ _ _ _
  refine pm_i_get pm_a62_1 rfl (cg_o hj) rfl ?_
  show pm_E _ _ _ 4 [(0, .ref (pl (60 + 2 * j))), (1, .ref (pl (60 + 2 * m)))] [.int (iI ((c j).1))] _ _ _ _
  refine pm_e_sim pm_a62_4 rfl ?_
  show pm_E _ _ _ 5 [(0, .ref (pl (60 + 2 * j))), (1, .ref (pl (60 + 2 * m)))] [.ref (pl (60 + 2 * m)), .int (iI ((c j).1))] _ _ _ _
  refine pm_i_get pm_a62_5 rfl (cg_o hm) rfl ?_
  show pm_E _ _ _ 8 [(0, .ref (pl (60 + 2 * j))), (1, .ref (pl (60 + 2 * m)))] [.int (iI ((c m).1)), .int (iI ((c j).1))] _ _ _ _
  refine pm_c_eq (t := 13) pm_a62_8 rfl ⟨by omega, by omega⟩ ⟨by omega, by omega⟩ (fun h_1 => ?_) (fun h_1 => ?_)
  · skip
    show pm_E _ _ _ 13 [(0, .ref (pl (60 + 2 * j))), (1, .ref (pl (60 + 2 * m)))] [] _ _ _ _
    refine pm_e_sim pm_a62_13 rfl ?_
    refine pm_e_top (y := iI 0) (by decide +kernel) ?_
    show pm_E _ _ _ 14 [(0, .ref (pl (60 + 2 * j))), (1, .ref (pl (60 + 2 * m)))] [.int (iI 0)] _ _ _ _
    refine pm_e_sim pm_a62_14 rfl ?_
    show pm_E _ _ _ 15 [(0, .ref (pl (60 + 2 * j))), (1, .ref (pl (60 + 2 * m))), (2, .int (iI 0))] [] _ _ _ _
    exact C_isLike_l hW hj hm hok hom k1 k0 (by omega) ((c j).1.toNat + 1) 0 (by omega) (by omega) (fun q a b => by omega) (by omega)
  · skip
    show pm_E _ _ _ 11 [(0, .ref (pl (60 + 2 * j))), (1, .ref (pl (60 + 2 * m)))] [] _ _ _ _
    refine pm_e_sim pm_a62_11 rfl ?_
    refine pm_e_top (y := iI 0) (by decide +kernel) ?_
    show pm_E _ _ _ 12 [(0, .ref (pl (60 + 2 * j))), (1, .ref (pl (60 + 2 * m)))] [.int (iI 0)] _ _ _ _
    refine pm_e_ret pm_a62_12 rfl rfl rfl rfl rfl rfl rfl rfl ?_
    exact k0 (Or.inl (by omega))
set_option maxHeartbeats 4000000 in
set_option maxRecDepth 100000 in
theorem C_hasCell_l {d n : Nat} {kd pl : Nat → Nat} {s : Nat → Int} {a : Nat → Int → Int} {c : Nat → cdt} {M : List va_E} {Q : Option Value → List va_E → Nat → Nat → Prop} {j : Nat} {x y : Int} (hW : wf n kd pl) (hj : j < 38 ∧ al n kd pl (60 + 2 * j)) (hok : okx (rm j) (c j)) (hx : in32 x) (hy : in32 y) (k1 : (∃ q, 0 ≤ q ∧ q < (c j).1 ∧ x ≤ atI (c j) q ∧ atI (c j) q ≤ y) → Q (some (.int (iI 1))) (ch n kd pl s a c M) 0 0) (k0 : (∀ q, 0 ≤ q → q < (c j).1 → ¬ (x ≤ atI (c j) q ∧ atI (c j) q ≤ y)) → Q (some (.int (iI 0))) (ch n kd pl s a c M) 0 0) : ∀ (f : Nat) (i : Int), 0 ≤ i → i ≤ (c j).1 → (∀ q, 0 ≤ q → q < i → ¬ (x ≤ atI (c j) q ∧ atI (c j) q ≤ y)) → (c j).1 - i < (f : Int) → pm_E none (d + 1) pm_mm139 2 [(0, .ref (pl (60 + 2 * j))), (1, .int (iI x)), (2, .int (iI y)), (3, .int (iI i))] [] (ch n kd pl s a c M) 0 0 Q := by
  intro f
  induction f with
  | zero =>
    intro i hi0 hi1 hi hf
    exfalso; omega
  | succ f ih =>
    intro i hi0 hi1 hi hf
    have rb := rm_b j
    obtain ⟨o1, o2, o3, o4⟩ := id hok
    obtain ⟨_, _⟩ := id hx
    obtain ⟨_, _⟩ := id hy
    refine pm_e_sim pm_a139_2 rfl ?_
    show pm_E _ _ _ 3 [(0, .ref (pl (60 + 2 * j))), (1, .int (iI x)), (2, .int (iI y)), (3, .int (iI i))] [.int (iI i)] _ _ _ _
    refine pm_e_sim pm_a139_3 rfl ?_
    show pm_E _ _ _ 4 [(0, .ref (pl (60 + 2 * j))), (1, .int (iI x)), (2, .int (iI y)), (3, .int (iI i))] [.ref (pl (60 + 2 * j)), .int (iI i)] _ _ _ _
    refine pm_i_get pm_a139_4 rfl (cg_o hj) rfl ?_
    show pm_E _ _ _ 7 [(0, .ref (pl (60 + 2 * j))), (1, .int (iI x)), (2, .int (iI y)), (3, .int (iI i))] [.int (iI ((c j).1)), .int (iI i)] _ _ _ _
    refine pm_c_ge (t := 36) pm_a139_7 rfl ⟨by omega, by omega⟩ ⟨by omega, by omega⟩ (fun h_1 => ?_) (fun h_1 => ?_)
    · skip
      show pm_E _ _ _ 36 [(0, .ref (pl (60 + 2 * j))), (1, .int (iI x)), (2, .int (iI y)), (3, .int (iI i))] [] _ _ _ _
      refine pm_e_sim pm_a139_36 rfl ?_
      refine pm_e_top (y := iI 0) (by decide +kernel) ?_
      show pm_E _ _ _ 37 [(0, .ref (pl (60 + 2 * j))), (1, .int (iI x)), (2, .int (iI y)), (3, .int (iI i))] [.int (iI 0)] _ _ _ _
      refine pm_e_ret pm_a139_37 rfl rfl rfl rfl rfl rfl rfl rfl ?_
      exact k0 (fun q a b => hi q a (by omega))
    · skip
      show pm_E _ _ _ 10 [(0, .ref (pl (60 + 2 * j))), (1, .int (iI x)), (2, .int (iI y)), (3, .int (iI i))] [] _ _ _ _
      refine pm_e_sim pm_a139_10 rfl ?_
      show pm_E _ _ _ 11 [(0, .ref (pl (60 + 2 * j))), (1, .int (iI x)), (2, .int (iI y)), (3, .int (iI i))] [.ref (pl (60 + 2 * j))] _ _ _ _
      refine pm_e_sim pm_a139_11 rfl ?_
      show pm_E _ _ _ 12 [(0, .ref (pl (60 + 2 * j))), (1, .int (iI x)), (2, .int (iI y)), (3, .int (iI i))] [.int (iI i), .ref (pl (60 + 2 * j))] _ _ _ _
      refine pm_i_callv (k := (pl (60 + 2 * j))) (T2 := pm_mm47) pm_a139_12 rfl rfl rfl (cg_o hj) ⟨Nat.le_of_ble_eq_true rfl, Nat.le_of_ble_eq_true rfl, rfl, by decide +kernel⟩ ?_
      show pm_E none _ _ 0 [(0, .ref (pl (60 + 2 * j))), (1, .int (iI i))] [] _ _ _ _
      refine C_at hW hj rfl hok.1 hok.2.1 ⟨by omega, by omega⟩ ?_
      obtain ⟨_, _⟩ := atI_in hok (i)
      show pm_E _ _ _ 15 [(0, .ref (pl (60 + 2 * j))), (1, .int (iI x)), (2, .int (iI y)), (3, .int (iI i))] [.int (iI (atI (c j) i))] _ _ _ _
      refine pm_e_sim pm_a139_15 rfl ?_
      show pm_E _ _ _ 16 [(0, .ref (pl (60 + 2 * j))), (1, .int (iI x)), (2, .int (iI y)), (3, .int (iI i))] [.int (iI x), .int (iI (atI (c j) i))] _ _ _ _
      refine pm_c_lt (t := 30) pm_a139_16 rfl ⟨by omega, by omega⟩ ⟨by omega, by omega⟩ (fun h_2 => ?_) (fun h_2 => ?_)
      · skip
        show pm_E _ _ _ 30 [(0, .ref (pl (60 + 2 * j))), (1, .int (iI x)), (2, .int (iI y)), (3, .int (iI i))] [] _ _ _ _
        refine pm_e_inc (y := iI (i + 1)) pm_a139_30 rfl (iI_add _ _) (by decide +kernel) rfl ?_
        show pm_E _ _ _ 33 [(0, .ref (pl (60 + 2 * j))), (1, .int (iI x)), (2, .int (iI y)), (3, .int (iI (i + 1)))] [] _ _ _ _
        refine pm_e_goto pm_a139_33 rfl ?_
        show pm_E _ _ _ 2 [(0, .ref (pl (60 + 2 * j))), (1, .int (iI x)), (2, .int (iI y)), (3, .int (iI (i + 1)))] [] _ _ _ _
        refine ih _ (by omega) (by omega) (fun q a b => ?_) (by omega)
        by_cases hq : q = i
        · rw [hq]; omega
        · exact hi q a (by omega)
      · skip
        show pm_E _ _ _ 19 [(0, .ref (pl (60 + 2 * j))), (1, .int (iI x)), (2, .int (iI y)), (3, .int (iI i))] [] _ _ _ _
        refine pm_e_sim pm_a139_19 rfl ?_
        show pm_E _ _ _ 20 [(0, .ref (pl (60 + 2 * j))), (1, .int (iI x)), (2, .int (iI y)), (3, .int (iI i))] [.ref (pl (60 + 2 * j))] _ _ _ _
        refine pm_e_sim pm_a139_20 rfl ?_
        show pm_E _ _ _ 21 [(0, .ref (pl (60 + 2 * j))), (1, .int (iI x)), (2, .int (iI y)), (3, .int (iI i))] [.int (iI i), .ref (pl (60 + 2 * j))] _ _ _ _
        refine pm_i_callv (k := (pl (60 + 2 * j))) (T2 := pm_mm47) pm_a139_21 rfl rfl rfl (cg_o hj) ⟨Nat.le_of_ble_eq_true rfl, Nat.le_of_ble_eq_true rfl, rfl, by decide +kernel⟩ ?_
        show pm_E none _ _ 0 [(0, .ref (pl (60 + 2 * j))), (1, .int (iI i))] [] _ _ _ _
        refine C_at hW hj rfl hok.1 hok.2.1 ⟨by omega, by omega⟩ ?_
        obtain ⟨_, _⟩ := atI_in hok (i)
        show pm_E _ _ _ 24 [(0, .ref (pl (60 + 2 * j))), (1, .int (iI x)), (2, .int (iI y)), (3, .int (iI i))] [.int (iI (atI (c j) i))] _ _ _ _
        refine pm_e_sim pm_a139_24 rfl ?_
        show pm_E _ _ _ 25 [(0, .ref (pl (60 + 2 * j))), (1, .int (iI x)), (2, .int (iI y)), (3, .int (iI i))] [.int (iI y), .int (iI (atI (c j) i))] _ _ _ _
        refine pm_c_gt (t := 30) pm_a139_25 rfl ⟨by omega, by omega⟩ ⟨by omega, by omega⟩ (fun h_3 => ?_) (fun h_3 => ?_)
        · skip
          show pm_E _ _ _ 30 [(0, .ref (pl (60 + 2 * j))), (1, .int (iI x)), (2, .int (iI y)), (3, .int (iI i))] [] _ _ _ _
          refine pm_e_inc (y := iI (i + 1)) pm_a139_30 rfl (iI_add _ _) (by decide +kernel) rfl ?_
          show pm_E _ _ _ 33 [(0, .ref (pl (60 + 2 * j))), (1, .int (iI x)), (2, .int (iI y)), (3, .int (iI (i + 1)))] [] _ _ _ _
          refine pm_e_goto pm_a139_33 rfl ?_
          show pm_E _ _ _ 2 [(0, .ref (pl (60 + 2 * j))), (1, .int (iI x)), (2, .int (iI y)), (3, .int (iI (i + 1)))] [] _ _ _ _
          refine ih _ (by omega) (by omega) (fun q a b => ?_) (by omega)
          by_cases hq : q = i
          · rw [hq]; omega
          · exact hi q a (by omega)
        · skip
          show pm_E _ _ _ 28 [(0, .ref (pl (60 + 2 * j))), (1, .int (iI x)), (2, .int (iI y)), (3, .int (iI i))] [] _ _ _ _
          refine pm_e_sim pm_a139_28 rfl ?_
          refine pm_e_top (y := iI 1) (by decide +kernel) ?_
          show pm_E _ _ _ 29 [(0, .ref (pl (60 + 2 * j))), (1, .int (iI x)), (2, .int (iI y)), (3, .int (iI i))] [.int (iI 1)] _ _ _ _
          refine pm_e_ret pm_a139_29 rfl rfl rfl rfl rfl rfl rfl rfl ?_
          exact k1 ⟨i, by omega, by omega, by omega, by omega⟩
set_option maxHeartbeats 4000000 in
set_option maxRecDepth 100000 in
theorem C_hasCell {d n : Nat} {kd pl : Nat → Nat} {s : Nat → Int} {a : Nat → Int → Int} {c : Nat → cdt} {M : List va_E} {Q : Option Value → List va_E → Nat → Nat → Prop} {j : Nat} {x y : Int} (hW : wf n kd pl) (hj : j < 38 ∧ al n kd pl (60 + 2 * j)) (hok : okx (rm j) (c j)) (hx : in32 x) (hy : in32 y) (k1 : (∃ q, 0 ≤ q ∧ q < (c j).1 ∧ x ≤ atI (c j) q ∧ atI (c j) q ≤ y) → Q (some (.int (iI 1))) (ch n kd pl s a c M) 0 0) (k0 : (∀ q, 0 ≤ q → q < (c j).1 → ¬ (x ≤ atI (c j) q ∧ atI (c j) q ≤ y)) → Q (some (.int (iI 0))) (ch n kd pl s a c M) 0 0) : pm_E none (d + 1) pm_mm139 0 [(0, .ref (pl (60 + 2 * j))), (1, .int (iI x)), (2, .int (iI y))] [] (ch n kd pl s a c M) 0 0 Q := by
  have rb := rm_b j
  obtain ⟨o1, o2, o3, o4⟩ := id hok
  refine pm_e_sim pm_a139_0 rfl ?_
  refine pm_e_top (y := iI 0) (by decide +kernel) ?_
  show pm_E _ _ _ 1 [(0, .ref (pl (60 + 2 * j))), (1, .int (iI x)), (2, .int (iI y))] [.int (iI 0)] _ _ _ _
  refine pm_e_sim pm_a139_1 rfl ?_
  show pm_E _ _ _ 2 [(0, .ref (pl (60 + 2 * j))), (1, .int (iI x)), (2, .int (iI y)), (3, .int (iI 0))] [] _ _ _ _
  exact C_hasCell_l hW hj hok hx hy k1 k0 ((c j).1.toNat + 1) 0 (by omega) (by omega) (fun q a b => by omega) (by omega)
set_option maxHeartbeats 4000000 in
set_option maxRecDepth 100000 in
theorem C_deepest_l {d n : Nat} {kd pl : Nat → Nat} {s : Nat → Int} {a : Nat → Int → Int} {c : Nat → cdt} {M : List va_E} {Q : Option Value → List va_E → Nat → Nat → Prop} {j : Nat} (hW : wf n kd pl) (hj : j < 38 ∧ al n kd pl (60 + 2 * j)) (hok : okx (rm j) (c j)) (hd : ∀ q, 0 ≤ q → q < (c j).1 → 0 ≤ a 2 q ∧ a 2 q ≤ 1000) (k : ∀ r, 0 ≤ r → r ≤ 1000 → Q (some (.int (iI r))) (ch n kd pl s a c M) 0 0) : ∀ (f : Nat) (m i : Int), 0 ≤ i → i ≤ (c j).1 → 0 ≤ m → m ≤ 1000 → (c j).1 - i < (f : Int) → pm_E none (d + 1) pm_mm138 14 [(0, .ref (pl 6)), (1, .ref (pl (60 + 2 * j))), (2, .int (iI m)), (3, .int (iI i))] [] (ch n kd pl s a c M) 0 0 Q := by
  intro f
  induction f with
  | zero =>
    intro m i hi0 hi1 hm0 hm1 hf
    exfalso; omega
  | succ f ih =>
    intro m i hi0 hi1 hm0 hm1 hf
    have rb := rm_b j
    obtain ⟨o1, o2, o3, o4⟩ := id hok
    refine pm_e_sim pm_a138_14 rfl ?_
    show pm_E _ _ _ 15 [(0, .ref (pl 6)), (1, .ref (pl (60 + 2 * j))), (2, .int (iI m)), (3, .int (iI i))] [.int (iI i)] _ _ _ _
    refine pm_e_sim pm_a138_15 rfl ?_
    show pm_E _ _ _ 16 [(0, .ref (pl 6)), (1, .ref (pl (60 + 2 * j))), (2, .int (iI m)), (3, .int (iI i))] [.ref (pl (60 + 2 * j)), .int (iI i)] _ _ _ _
    refine pm_i_get pm_a138_16 rfl (cg_o hj) rfl ?_
    show pm_E _ _ _ 19 [(0, .ref (pl 6)), (1, .ref (pl (60 + 2 * j))), (2, .int (iI m)), (3, .int (iI i))] [.int (iI ((c j).1)), .int (iI i)] _ _ _ _
    refine pm_c_ge (t := 38) pm_a138_19 rfl ⟨by omega, by omega⟩ ⟨by omega, by omega⟩ (fun h_1 => ?_) (fun h_1 => ?_)
    · skip
      show pm_E _ _ _ 38 [(0, .ref (pl 6)), (1, .ref (pl (60 + 2 * j))), (2, .int (iI m)), (3, .int (iI i))] [] _ _ _ _
      refine pm_e_sim pm_a138_38 rfl ?_
      show pm_E _ _ _ 39 [(0, .ref (pl 6)), (1, .ref (pl (60 + 2 * j))), (2, .int (iI m)), (3, .int (iI i))] [.int (iI m)] _ _ _ _
      refine pm_e_ret pm_a138_39 rfl rfl rfl rfl rfl rfl rfl rfl ?_
      exact k m hm0 hm1
    · skip
      show pm_E _ _ _ 22 [(0, .ref (pl 6)), (1, .ref (pl (60 + 2 * j))), (2, .int (iI m)), (3, .int (iI i))] [] _ _ _ _
      refine pm_e_sim pm_a138_22 rfl ?_
      show pm_E _ _ _ 23 [(0, .ref (pl 6)), (1, .ref (pl (60 + 2 * j))), (2, .int (iI m)), (3, .int (iI i))] [.int (iI m)] _ _ _ _
      refine pm_e_sim pm_a138_23 rfl ?_
      show pm_E _ _ _ 24 [(0, .ref (pl 6)), (1, .ref (pl (60 + 2 * j))), (2, .int (iI m)), (3, .int (iI i))] [.ref (pl 6), .int (iI m)] _ _ _ _
      refine pm_e_sim pm_a138_24 rfl ?_
      show pm_E _ _ _ 25 [(0, .ref (pl 6)), (1, .ref (pl (60 + 2 * j))), (2, .int (iI m)), (3, .int (iI i))] [.int (iI i), .ref (pl 6), .int (iI m)] _ _ _ _
      refine pm_i_callv (k := (pl 6)) (T2 := pm_mm75) pm_a138_25 rfl rfl rfl (cg_6 hW) ⟨Nat.le_of_ble_eq_true rfl, Nat.le_of_ble_eq_true rfl, rfl, by decide +kernel⟩ ?_
      show pm_E none _ _ 0 [(0, .ref (pl 6)), (1, .int (iI i))] [] _ _ _ _
      refine C_depthOf hW ⟨by omega, by omega⟩ ?_
      rw [shD_y (by omega) (by omega)]
      obtain ⟨_, _⟩ := hd i (by omega) (by omega)
      show pm_E _ _ _ 28 [(0, .ref (pl 6)), (1, .ref (pl (60 + 2 * j))), (2, .int (iI m)), (3, .int (iI i))] [.int (iI (a 2 i)), .int (iI m)] _ _ _ _
      refine pm_i_max pm_a138_28 rfl (Nat.le_of_ble_eq_true rfl) ⟨by omega, by omega⟩ ⟨by omega, by omega⟩ ?_
      show pm_E _ _ _ 31 [(0, .ref (pl 6)), (1, .ref (pl (60 + 2 * j))), (2, .int (iI m)), (3, .int (iI i))] [.int (iI (max m (a 2 i)))] _ _ _ _
      refine pm_e_sim pm_a138_31 rfl ?_
      show pm_E _ _ _ 32 [(0, .ref (pl 6)), (1, .ref (pl (60 + 2 * j))), (2, .int (iI (max m (a 2 i)))), (3, .int (iI i))] [] _ _ _ _
      refine pm_e_inc (y := iI (i + 1)) pm_a138_32 rfl (iI_add _ _) (by decide +kernel) rfl ?_
      show pm_E _ _ _ 35 [(0, .ref (pl 6)), (1, .ref (pl (60 + 2 * j))), (2, .int (iI (max m (a 2 i)))), (3, .int (iI (i + 1)))] [] _ _ _ _
      refine pm_e_goto pm_a138_35 rfl ?_
      show pm_E _ _ _ 14 [(0, .ref (pl 6)), (1, .ref (pl (60 + 2 * j))), (2, .int (iI (max m (a 2 i)))), (3, .int (iI (i + 1)))] [] _ _ _ _
      exact ih _ _ (by omega) (by omega) (by omega) (by omega) (by omega)
set_option maxHeartbeats 4000000 in
set_option maxRecDepth 100000 in
theorem C_deepest {d n : Nat} {kd pl : Nat → Nat} {s : Nat → Int} {a : Nat → Int → Int} {c : Nat → cdt} {M : List va_E} {Q : Option Value → List va_E → Nat → Nat → Prop} {j : Nat} {ft : Nat} {k0 : Int} (hW : wf n kd pl) (hj : j < 38 ∧ al n kd pl (60 + 2 * j)) (hok : okx (rm j) (c j)) (hin : ∀ q, in32 (a 1 q)) (ht : tm (c j).2.2 ft k0 0 (c j).1) (k : ∀ a' r, shM a a' → 0 ≤ r → r ≤ 1000 → Q (some (.int (iI r))) (ch n kd pl s a' c M) 0 0) : pm_E none (d + 3) pm_mm138 0 [(0, .ref (pl 6)), (1, .ref (pl (60 + 2 * j)))] [] (ch n kd pl s a c M) 0 0 Q := by
  have rb := rm_b j
  obtain ⟨o1, o2, o3, o4⟩ := id hok
  refine pm_e_sim pm_a138_0 rfl ?_
  show pm_E _ _ _ 1 [(0, .ref (pl 6)), (1, .ref (pl (60 + 2 * j)))] [.ref (pl 6)] _ _ _ _
  refine pm_e_sim pm_a138_1 rfl ?_
  show pm_E _ _ _ 2 [(0, .ref (pl 6)), (1, .ref (pl (60 + 2 * j)))] [.ref (pl (60 + 2 * j)), .ref (pl 6)] _ _ _ _
  refine pm_e_sim pm_a138_2 rfl ?_
  refine pm_e_top (y := iI 0) (by decide +kernel) ?_
  show pm_E _ _ _ 3 [(0, .ref (pl 6)), (1, .ref (pl (60 + 2 * j)))] [.int (iI 0), .ref (pl (60 + 2 * j)), .ref (pl 6)] _ _ _ _
  refine pm_e_sim pm_a138_3 rfl ?_
  show pm_E _ _ _ 4 [(0, .ref (pl 6)), (1, .ref (pl (60 + 2 * j)))] [.ref (pl (60 + 2 * j)), .int (iI 0), .ref (pl (60 + 2 * j)), .ref (pl 6)] _ _ _ _
  refine pm_i_get pm_a138_4 rfl (cg_o hj) rfl ?_
  show pm_E _ _ _ 7 [(0, .ref (pl 6)), (1, .ref (pl (60 + 2 * j)))] [.int (iI ((c j).1)), .int (iI 0), .ref (pl (60 + 2 * j)), .ref (pl 6)] _ _ _ _
  refine pm_i_callv (k := (pl 6)) (T2 := pm_mm70) pm_a138_7 rfl rfl rfl (cg_6 hW) ⟨Nat.le_of_ble_eq_true rfl, Nat.le_of_ble_eq_true rfl, rfl, by decide +kernel⟩ ?_
  show pm_E none _ _ 0 [(0, .ref (pl 6)), (1, .ref (pl (60 + 2 * j))), (2, .int (iI 0)), (3, .int (iI ((c j).1)))] [] _ _ _ _
  refine C_measure hW hj rfl hok hin (by omega) (by omega) ht (fun E D h1 h2 h3 => ?_)
  show pm_E _ _ _ 10 [(0, .ref (pl 6)), (1, .ref (pl (60 + 2 * j)))] [] _ _ _ _
  refine pm_e_sim pm_a138_10 rfl ?_
  refine pm_e_top (y := iI 0) (by decide +kernel) ?_
  show pm_E _ _ _ 11 [(0, .ref (pl 6)), (1, .ref (pl (60 + 2 * j)))] [.int (iI 0)] _ _ _ _
  refine pm_e_sim pm_a138_11 rfl ?_
  show pm_E _ _ _ 12 [(0, .ref (pl 6)), (1, .ref (pl (60 + 2 * j))), (2, .int (iI 0))] [] _ _ _ _
  refine pm_e_sim pm_a138_12 rfl ?_
  refine pm_e_top (y := iI 0) (by decide +kernel) ?_
  show pm_E _ _ _ 13 [(0, .ref (pl 6)), (1, .ref (pl (60 + 2 * j))), (2, .int (iI 0))] [.int (iI 0)] _ _ _ _
  refine pm_e_sim pm_a138_13 rfl ?_
  show pm_E _ _ _ 14 [(0, .ref (pl 6)), (1, .ref (pl (60 + 2 * j))), (2, .int (iI 0)), (3, .int (iI 0))] [] _ _ _ _
  refine C_deepest_l (a := updA (updA a 1 E) 2 D) hW hj hok (fun q a b => ?_) (fun r r1 r2 => k _ r (shM_m h3) r1 r2) ((c j).1.toNat + 1) 0 0 (by omega) (by omega) (by omega) (by omega) (by omega)
  obtain ⟨_, _, _, _, _, _⟩ := dp_sub h2 q a b
  show 0 ≤ D q ∧ D q ≤ 1000
  omega
theorem chn_q {y : cdt} {f : Nat} {k i : Int} (ht : tm y.2.2 f k i y.1) (h0 : 0 ≤ i) : y.2.2 i ≠ 0 ∨ (atI y (i + 1) = y.2.2 (i + 1) ∧ i + 1 < y.1) := by
  by_cases z : y.2.2 i = 0
  · obtain ⟨f1, m, t1, t2, _⟩ := tm_app ht z
    have := tm_lt t1
    have := tm_lt t2
    exact Or.inr ⟨atI_y (by omega) (by omega), by omega⟩
  · exact Or.inl z
theorem pm_i_dvx {scr : Option (Nat × (Nat → Int32))} {d : Nat} {T : pm_M} {pc : Nat} {lv : pm_L} {st : List Value} {ph : List va_E} {nc ns : Nat} {Q : Option Value → List va_E → Nat → Nat → Prop} {x y z : Int32} {len : Nat} (h0 : pm_as (pm_cd T) pc = some (.idiv, len)) (hy : y ≠ 0) (hz : x / y = z) (k : pm_E scr d T (pc + 1) lv (.int z :: st) ph nc ns Q) : pm_E scr d T pc lv (.int y :: .int x :: st) ph nc ns Q :=
  pm_e_sim h0 (show pm_bd _ _ _ = _ from pm_bd_c hy) (by subst hz; exact k)
theorem iI_half {m x : Int} (h0 : 0 ≤ m) (h1 : m < 1000000) (hx : x = 2 * m) : iI x / iI 2 = iI m := by
  subst hx
  have h2 : (iI (2 * m) / iI 2).toInt = m := by
    rw [Int32.toInt_div_of_ne_right _ _ (by decide +kernel), iI_t ⟨by omega, by omega⟩, iI_t (by decide)]
    exact Int.mul_tdiv_cancel_left m (by decide)
  rw [← iI_of (iI (2 * m) / iI 2), h2]
set_option maxHeartbeats 4000000 in
set_option maxRecDepth 100000 in
theorem C_chain_l {d n : Nat} {kd pl : Nat → Nat} {s : Nat → Int} {a : Nat → Int → Int} {c : Nat → cdt} {M : List va_E} {Q : Option Value → List va_E → Nat → Nat → Prop} {j : Nat} {x l e : Int} (hW : wf n kd pl) (hj : j < 38 ∧ al n kd pl (60 + 2 * j)) (hok : okx (rm j) (c j)) (hx : 0 ≤ x ∧ x ≤ 1000) (hl : 2 ≤ l ∧ l ≤ 100) (he : in32 e) (k : ∀ r, in32 r → chm (c j).2.2 (c j).1 l e x r → Q (some (.int (iI r))) (ch n kd pl s a c M) 0 0) : ∀ (f : Nat) (i m : Int), 0 ≤ m → i = x + 2 * m → (∃ f k, tm (c j).2.2 f k i (c j).1) → (∀ q, 0 ≤ q → q < m → x + 2 * q + 2 < (c j).1 ∧ (c j).2.2 (x + 2 * q) = 0 ∧ (c j).2.2 (x + 2 * q + 1) = l) → 2000 - i < (f : Int) → pm_E none (d + 1) pm_mm106 3 [(0, .ref (pl (60 + 2 * j))), (1, .int (iI x)), (2, .int (iI l)), (3, .int (iI e)), (4, .int (iI i))] [] (ch n kd pl s a c M) 0 0 Q := by
  intro f
  induction f with
  | zero =>
    intro i m hm0 hi hT hlk hf
    have rb := rm_b j
    obtain ⟨o1, o2, o3, o4⟩ := id hok
    obtain ⟨ft, kk, ht⟩ := hT
    have hlt := tm_lt ht
    exfalso; omega
  | succ f ih =>
    intro i m hm0 hi hT hlk hf
    have rb := rm_b j
    obtain ⟨o1, o2, o3, o4⟩ := id hok
    obtain ⟨ft, kk, ht⟩ := hT
    have hlt := tm_lt ht
    have w1 : atI (c j) i = (c j).2.2 i := atI_y (by omega) (by omega)
    have w2 := chn_q ht (by omega)
    obtain ⟨_, _⟩ := id he
    refine pm_e_sim pm_a106_3 rfl ?_
    show pm_E _ _ _ 5 [(0, .ref (pl (60 + 2 * j))), (1, .int (iI x)), (2, .int (iI l)), (3, .int (iI e)), (4, .int (iI i))] [.int (iI i)] _ _ _ _
    refine pm_e_sim pm_a106_5 rfl ?_
    show pm_E _ _ _ 6 [(0, .ref (pl (60 + 2 * j))), (1, .int (iI x)), (2, .int (iI l)), (3, .int (iI e)), (4, .int (iI i))] [.ref (pl (60 + 2 * j)), .int (iI i)] _ _ _ _
    refine pm_i_get pm_a106_6 rfl (cg_o hj) rfl ?_
    show pm_E _ _ _ 9 [(0, .ref (pl (60 + 2 * j))), (1, .int (iI x)), (2, .int (iI l)), (3, .int (iI e)), (4, .int (iI i))] [.int (iI ((c j).1)), .int (iI i)] _ _ _ _
    refine pm_c_ge (t := 39) pm_a106_9 rfl ⟨by omega, by omega⟩ ⟨by omega, by omega⟩ (fun h_1 => ?_) (fun h_1 => ?_)
    · skip
      show pm_E _ _ _ 39 [(0, .ref (pl (60 + 2 * j))), (1, .int (iI x)), (2, .int (iI l)), (3, .int (iI e)), (4, .int (iI i))] [] _ _ _ _
      refine pm_e_sim pm_a106_39 rfl ?_
      show pm_E _ _ _ 40 [(0, .ref (pl (60 + 2 * j))), (1, .int (iI x)), (2, .int (iI l)), (3, .int (iI e)), (4, .int (iI i))] [.ref (pl (60 + 2 * j))] _ _ _ _
      refine pm_e_sim pm_a106_40 rfl ?_
      show pm_E _ _ _ 42 [(0, .ref (pl (60 + 2 * j))), (1, .int (iI x)), (2, .int (iI l)), (3, .int (iI e)), (4, .int (iI i))] [.int (iI i), .ref (pl (60 + 2 * j))] _ _ _ _
      refine pm_i_callv (k := (pl (60 + 2 * j))) (T2 := pm_mm47) pm_a106_42 rfl rfl rfl (cg_o hj) ⟨Nat.le_of_ble_eq_true rfl, Nat.le_of_ble_eq_true rfl, rfl, by decide +kernel⟩ ?_
      show pm_E none _ _ 0 [(0, .ref (pl (60 + 2 * j))), (1, .int (iI i))] [] _ _ _ _
      refine C_at hW hj rfl hok.1 hok.2.1 ⟨by omega, by omega⟩ ?_
      obtain ⟨_, _⟩ := atI_in hok (i)
      show pm_E _ _ _ 45 [(0, .ref (pl (60 + 2 * j))), (1, .int (iI x)), (2, .int (iI l)), (3, .int (iI e)), (4, .int (iI i))] [.int (iI (atI (c j) i))] _ _ _ _
      refine pm_e_sim pm_a106_45 rfl ?_
      show pm_E _ _ _ 46 [(0, .ref (pl (60 + 2 * j))), (1, .int (iI x)), (2, .int (iI l)), (3, .int (iI e)), (4, .int (iI i))] [.int (iI e), .int (iI (atI (c j) i))] _ _ _ _
      refine pm_c_ne (t := 69) pm_a106_46 rfl ⟨by omega, by omega⟩ ⟨by omega, by omega⟩ (fun h_2 => ?_) (fun h_2 => ?_)
      · skip
        show pm_E _ _ _ 69 [(0, .ref (pl (60 + 2 * j))), (1, .int (iI x)), (2, .int (iI l)), (3, .int (iI e)), (4, .int (iI i))] [] _ _ _ _
        refine pm_e_sim pm_a106_69 rfl ?_
        refine pm_e_top (y := iI (-4)) (by decide +kernel) ?_
        show pm_E _ _ _ 71 [(0, .ref (pl (60 + 2 * j))), (1, .int (iI x)), (2, .int (iI l)), (3, .int (iI e)), (4, .int (iI i))] [.int (iI (-4))] _ _ _ _
        refine pm_e_ret pm_a106_71 rfl rfl rfl rfl rfl rfl rfl rfl ?_
        refine k _ ⟨by omega, by omega⟩ ?_
        subst hi
        exact ⟨m, hm0, hlk, by omega, fun ⟨z1, z2⟩ => by have := (tm_link ht z1 (by omega)).1; omega, by omega⟩
      · skip
        show pm_E _ _ _ 49 [(0, .ref (pl (60 + 2 * j))), (1, .int (iI x)), (2, .int (iI l)), (3, .int (iI e)), (4, .int (iI i))] [] _ _ _ _
        refine pm_e_sim pm_a106_49 rfl ?_
        show pm_E _ _ _ 51 [(0, .ref (pl (60 + 2 * j))), (1, .int (iI x)), (2, .int (iI l)), (3, .int (iI e)), (4, .int (iI i))] [.int (iI i)] _ _ _ _
        refine pm_e_sim pm_a106_51 rfl ?_
        refine pm_e_top (y := iI 1) (by decide +kernel) ?_
        show pm_E _ _ _ 52 [(0, .ref (pl (60 + 2 * j))), (1, .int (iI x)), (2, .int (iI l)), (3, .int (iI e)), (4, .int (iI i))] [.int (iI 1), .int (iI i)] _ _ _ _
        refine pm_e_sim pm_a106_52 rfl ?_
        refine pm_e_top (y := iI (i + 1)) (iI_add _ _) ?_
        show pm_E _ _ _ 53 [(0, .ref (pl (60 + 2 * j))), (1, .int (iI x)), (2, .int (iI l)), (3, .int (iI e)), (4, .int (iI i))] [.int (iI (i + 1))] _ _ _ _
        refine pm_e_sim pm_a106_53 rfl ?_
        show pm_E _ _ _ 54 [(0, .ref (pl (60 + 2 * j))), (1, .int (iI x)), (2, .int (iI l)), (3, .int (iI e)), (4, .int (iI i))] [.ref (pl (60 + 2 * j)), .int (iI (i + 1))] _ _ _ _
        refine pm_i_get pm_a106_54 rfl (cg_o hj) rfl ?_
        show pm_E _ _ _ 57 [(0, .ref (pl (60 + 2 * j))), (1, .int (iI x)), (2, .int (iI l)), (3, .int (iI e)), (4, .int (iI i))] [.int (iI ((c j).1)), .int (iI (i + 1))] _ _ _ _
        refine pm_c_ne (t := 69) pm_a106_57 rfl ⟨by omega, by omega⟩ ⟨by omega, by omega⟩ (fun h_3 => ?_) (fun h_3 => ?_)
        · skip
          show pm_E _ _ _ 69 [(0, .ref (pl (60 + 2 * j))), (1, .int (iI x)), (2, .int (iI l)), (3, .int (iI e)), (4, .int (iI i))] [] _ _ _ _
          refine pm_e_sim pm_a106_69 rfl ?_
          refine pm_e_top (y := iI (-4)) (by decide +kernel) ?_
          show pm_E _ _ _ 71 [(0, .ref (pl (60 + 2 * j))), (1, .int (iI x)), (2, .int (iI l)), (3, .int (iI e)), (4, .int (iI i))] [.int (iI (-4))] _ _ _ _
          refine pm_e_ret pm_a106_71 rfl rfl rfl rfl rfl rfl rfl rfl ?_
          refine k _ ⟨by omega, by omega⟩ ?_
          subst hi
          exact ⟨m, hm0, hlk, by omega, fun ⟨z1, z2⟩ => by have := (tm_link ht z1 (by omega)).1; omega, by omega⟩
        · skip
          show pm_E _ _ _ 60 [(0, .ref (pl (60 + 2 * j))), (1, .int (iI x)), (2, .int (iI l)), (3, .int (iI e)), (4, .int (iI i))] [] _ _ _ _
          refine pm_e_sim pm_a106_60 rfl ?_
          show pm_E _ _ _ 62 [(0, .ref (pl (60 + 2 * j))), (1, .int (iI x)), (2, .int (iI l)), (3, .int (iI e)), (4, .int (iI i))] [.int (iI i)] _ _ _ _
          refine pm_e_sim pm_a106_62 rfl ?_
          show pm_E _ _ _ 63 [(0, .ref (pl (60 + 2 * j))), (1, .int (iI x)), (2, .int (iI l)), (3, .int (iI e)), (4, .int (iI i))] [.int (iI x), .int (iI i)] _ _ _ _
          refine pm_e_sim pm_a106_63 rfl ?_
          refine pm_e_top (y := iI (i - x)) (iI_sub _ _) ?_
          show pm_E _ _ _ 64 [(0, .ref (pl (60 + 2 * j))), (1, .int (iI x)), (2, .int (iI l)), (3, .int (iI e)), (4, .int (iI i))] [.int (iI (i - x))] _ _ _ _
          refine pm_e_sim pm_a106_64 rfl ?_
          refine pm_e_top (y := iI 2) (by decide +kernel) ?_
          show pm_E _ _ _ 65 [(0, .ref (pl (60 + 2 * j))), (1, .int (iI x)), (2, .int (iI l)), (3, .int (iI e)), (4, .int (iI i))] [.int (iI 2), .int (iI (i - x))] _ _ _ _
          refine pm_i_dvx (z := iI m) pm_a106_65 (by decide +kernel) (iI_half (by omega) (by omega) (by omega)) ?_
          show pm_E _ _ _ 66 [(0, .ref (pl (60 + 2 * j))), (1, .int (iI x)), (2, .int (iI l)), (3, .int (iI e)), (4, .int (iI i))] [.int (iI m)] _ _ _ _
          refine pm_e_goto pm_a106_66 rfl ?_
          show pm_E _ _ _ 71 [(0, .ref (pl (60 + 2 * j))), (1, .int (iI x)), (2, .int (iI l)), (3, .int (iI e)), (4, .int (iI i))] [.int (iI m)] _ _ _ _
          refine pm_e_ret pm_a106_71 rfl rfl rfl rfl rfl rfl rfl rfl ?_
          refine k _ ⟨by omega, by omega⟩ ?_
          subst hi
          exact ⟨m, hm0, hlk, by omega, fun ⟨z1, z2⟩ => by have := (tm_link ht z1 (by omega)).1; omega, by omega⟩
    · skip
      show pm_E _ _ _ 12 [(0, .ref (pl (60 + 2 * j))), (1, .int (iI x)), (2, .int (iI l)), (3, .int (iI e)), (4, .int (iI i))] [] _ _ _ _
      refine pm_e_sim pm_a106_12 rfl ?_
      show pm_E _ _ _ 13 [(0, .ref (pl (60 + 2 * j))), (1, .int (iI x)), (2, .int (iI l)), (3, .int (iI e)), (4, .int (iI i))] [.ref (pl (60 + 2 * j))] _ _ _ _
      refine pm_e_sim pm_a106_13 rfl ?_
      show pm_E _ _ _ 15 [(0, .ref (pl (60 + 2 * j))), (1, .int (iI x)), (2, .int (iI l)), (3, .int (iI e)), (4, .int (iI i))] [.int (iI i), .ref (pl (60 + 2 * j))] _ _ _ _
      refine pm_i_callv (k := (pl (60 + 2 * j))) (T2 := pm_mm47) pm_a106_15 rfl rfl rfl (cg_o hj) ⟨Nat.le_of_ble_eq_true rfl, Nat.le_of_ble_eq_true rfl, rfl, by decide +kernel⟩ ?_
      show pm_E none _ _ 0 [(0, .ref (pl (60 + 2 * j))), (1, .int (iI i))] [] _ _ _ _
      refine C_at hW hj rfl hok.1 hok.2.1 ⟨by omega, by omega⟩ ?_
      obtain ⟨_, _⟩ := atI_in hok (i)
      show pm_E _ _ _ 18 [(0, .ref (pl (60 + 2 * j))), (1, .int (iI x)), (2, .int (iI l)), (3, .int (iI e)), (4, .int (iI i))] [.int (iI (atI (c j) i))] _ _ _ _
      refine pm_i_ne (t := 39) pm_a106_18 rfl ⟨by omega, by omega⟩ (fun h_4 => ?_) (fun h_4 => ?_)
      · skip
        show pm_E _ _ _ 39 [(0, .ref (pl (60 + 2 * j))), (1, .int (iI x)), (2, .int (iI l)), (3, .int (iI e)), (4, .int (iI i))] [] _ _ _ _
        refine pm_e_sim pm_a106_39 rfl ?_
        show pm_E _ _ _ 40 [(0, .ref (pl (60 + 2 * j))), (1, .int (iI x)), (2, .int (iI l)), (3, .int (iI e)), (4, .int (iI i))] [.ref (pl (60 + 2 * j))] _ _ _ _
        refine pm_e_sim pm_a106_40 rfl ?_
        show pm_E _ _ _ 42 [(0, .ref (pl (60 + 2 * j))), (1, .int (iI x)), (2, .int (iI l)), (3, .int (iI e)), (4, .int (iI i))] [.int (iI i), .ref (pl (60 + 2 * j))] _ _ _ _
        refine pm_i_callv (k := (pl (60 + 2 * j))) (T2 := pm_mm47) pm_a106_42 rfl rfl rfl (cg_o hj) ⟨Nat.le_of_ble_eq_true rfl, Nat.le_of_ble_eq_true rfl, rfl, by decide +kernel⟩ ?_
        show pm_E none _ _ 0 [(0, .ref (pl (60 + 2 * j))), (1, .int (iI i))] [] _ _ _ _
        refine C_at hW hj rfl hok.1 hok.2.1 ⟨by omega, by omega⟩ ?_
        obtain ⟨_, _⟩ := atI_in hok (i)
        show pm_E _ _ _ 45 [(0, .ref (pl (60 + 2 * j))), (1, .int (iI x)), (2, .int (iI l)), (3, .int (iI e)), (4, .int (iI i))] [.int (iI (atI (c j) i))] _ _ _ _
        refine pm_e_sim pm_a106_45 rfl ?_
        show pm_E _ _ _ 46 [(0, .ref (pl (60 + 2 * j))), (1, .int (iI x)), (2, .int (iI l)), (3, .int (iI e)), (4, .int (iI i))] [.int (iI e), .int (iI (atI (c j) i))] _ _ _ _
        refine pm_c_ne (t := 69) pm_a106_46 rfl ⟨by omega, by omega⟩ ⟨by omega, by omega⟩ (fun h_5 => ?_) (fun h_5 => ?_)
        · skip
          show pm_E _ _ _ 69 [(0, .ref (pl (60 + 2 * j))), (1, .int (iI x)), (2, .int (iI l)), (3, .int (iI e)), (4, .int (iI i))] [] _ _ _ _
          refine pm_e_sim pm_a106_69 rfl ?_
          refine pm_e_top (y := iI (-4)) (by decide +kernel) ?_
          show pm_E _ _ _ 71 [(0, .ref (pl (60 + 2 * j))), (1, .int (iI x)), (2, .int (iI l)), (3, .int (iI e)), (4, .int (iI i))] [.int (iI (-4))] _ _ _ _
          refine pm_e_ret pm_a106_71 rfl rfl rfl rfl rfl rfl rfl rfl ?_
          refine k _ ⟨by omega, by omega⟩ ?_
          subst hi
          exact ⟨m, hm0, hlk, by omega, fun ⟨z1, z2⟩ => by have := (tm_link ht z1 (by omega)).1; omega, by omega⟩
        · skip
          show pm_E _ _ _ 49 [(0, .ref (pl (60 + 2 * j))), (1, .int (iI x)), (2, .int (iI l)), (3, .int (iI e)), (4, .int (iI i))] [] _ _ _ _
          refine pm_e_sim pm_a106_49 rfl ?_
          show pm_E _ _ _ 51 [(0, .ref (pl (60 + 2 * j))), (1, .int (iI x)), (2, .int (iI l)), (3, .int (iI e)), (4, .int (iI i))] [.int (iI i)] _ _ _ _
          refine pm_e_sim pm_a106_51 rfl ?_
          refine pm_e_top (y := iI 1) (by decide +kernel) ?_
          show pm_E _ _ _ 52 [(0, .ref (pl (60 + 2 * j))), (1, .int (iI x)), (2, .int (iI l)), (3, .int (iI e)), (4, .int (iI i))] [.int (iI 1), .int (iI i)] _ _ _ _
          refine pm_e_sim pm_a106_52 rfl ?_
          refine pm_e_top (y := iI (i + 1)) (iI_add _ _) ?_
          show pm_E _ _ _ 53 [(0, .ref (pl (60 + 2 * j))), (1, .int (iI x)), (2, .int (iI l)), (3, .int (iI e)), (4, .int (iI i))] [.int (iI (i + 1))] _ _ _ _
          refine pm_e_sim pm_a106_53 rfl ?_
          show pm_E _ _ _ 54 [(0, .ref (pl (60 + 2 * j))), (1, .int (iI x)), (2, .int (iI l)), (3, .int (iI e)), (4, .int (iI i))] [.ref (pl (60 + 2 * j)), .int (iI (i + 1))] _ _ _ _
          refine pm_i_get pm_a106_54 rfl (cg_o hj) rfl ?_
          show pm_E _ _ _ 57 [(0, .ref (pl (60 + 2 * j))), (1, .int (iI x)), (2, .int (iI l)), (3, .int (iI e)), (4, .int (iI i))] [.int (iI ((c j).1)), .int (iI (i + 1))] _ _ _ _
          refine pm_c_ne (t := 69) pm_a106_57 rfl ⟨by omega, by omega⟩ ⟨by omega, by omega⟩ (fun h_6 => ?_) (fun h_6 => ?_)
          · skip
            show pm_E _ _ _ 69 [(0, .ref (pl (60 + 2 * j))), (1, .int (iI x)), (2, .int (iI l)), (3, .int (iI e)), (4, .int (iI i))] [] _ _ _ _
            refine pm_e_sim pm_a106_69 rfl ?_
            refine pm_e_top (y := iI (-4)) (by decide +kernel) ?_
            show pm_E _ _ _ 71 [(0, .ref (pl (60 + 2 * j))), (1, .int (iI x)), (2, .int (iI l)), (3, .int (iI e)), (4, .int (iI i))] [.int (iI (-4))] _ _ _ _
            refine pm_e_ret pm_a106_71 rfl rfl rfl rfl rfl rfl rfl rfl ?_
            refine k _ ⟨by omega, by omega⟩ ?_
            subst hi
            exact ⟨m, hm0, hlk, by omega, fun ⟨z1, z2⟩ => by have := (tm_link ht z1 (by omega)).1; omega, by omega⟩
          · skip
            show pm_E _ _ _ 60 [(0, .ref (pl (60 + 2 * j))), (1, .int (iI x)), (2, .int (iI l)), (3, .int (iI e)), (4, .int (iI i))] [] _ _ _ _
            refine pm_e_sim pm_a106_60 rfl ?_
            show pm_E _ _ _ 62 [(0, .ref (pl (60 + 2 * j))), (1, .int (iI x)), (2, .int (iI l)), (3, .int (iI e)), (4, .int (iI i))] [.int (iI i)] _ _ _ _
            refine pm_e_sim pm_a106_62 rfl ?_
            show pm_E _ _ _ 63 [(0, .ref (pl (60 + 2 * j))), (1, .int (iI x)), (2, .int (iI l)), (3, .int (iI e)), (4, .int (iI i))] [.int (iI x), .int (iI i)] _ _ _ _
            refine pm_e_sim pm_a106_63 rfl ?_
            refine pm_e_top (y := iI (i - x)) (iI_sub _ _) ?_
            show pm_E _ _ _ 64 [(0, .ref (pl (60 + 2 * j))), (1, .int (iI x)), (2, .int (iI l)), (3, .int (iI e)), (4, .int (iI i))] [.int (iI (i - x))] _ _ _ _
            refine pm_e_sim pm_a106_64 rfl ?_
            refine pm_e_top (y := iI 2) (by decide +kernel) ?_
            show pm_E _ _ _ 65 [(0, .ref (pl (60 + 2 * j))), (1, .int (iI x)), (2, .int (iI l)), (3, .int (iI e)), (4, .int (iI i))] [.int (iI 2), .int (iI (i - x))] _ _ _ _
            refine pm_i_dvx (z := iI m) pm_a106_65 (by decide +kernel) (iI_half (by omega) (by omega) (by omega)) ?_
            show pm_E _ _ _ 66 [(0, .ref (pl (60 + 2 * j))), (1, .int (iI x)), (2, .int (iI l)), (3, .int (iI e)), (4, .int (iI i))] [.int (iI m)] _ _ _ _
            refine pm_e_goto pm_a106_66 rfl ?_
            show pm_E _ _ _ 71 [(0, .ref (pl (60 + 2 * j))), (1, .int (iI x)), (2, .int (iI l)), (3, .int (iI e)), (4, .int (iI i))] [.int (iI m)] _ _ _ _
            refine pm_e_ret pm_a106_71 rfl rfl rfl rfl rfl rfl rfl rfl ?_
            refine k _ ⟨by omega, by omega⟩ ?_
            subst hi
            exact ⟨m, hm0, hlk, by omega, fun ⟨z1, z2⟩ => by have := (tm_link ht z1 (by omega)).1; omega, by omega⟩
      · skip
        show pm_E _ _ _ 21 [(0, .ref (pl (60 + 2 * j))), (1, .int (iI x)), (2, .int (iI l)), (3, .int (iI e)), (4, .int (iI i))] [] _ _ _ _
        refine pm_e_sim pm_a106_21 rfl ?_
        show pm_E _ _ _ 22 [(0, .ref (pl (60 + 2 * j))), (1, .int (iI x)), (2, .int (iI l)), (3, .int (iI e)), (4, .int (iI i))] [.ref (pl (60 + 2 * j))] _ _ _ _
        refine pm_e_sim pm_a106_22 rfl ?_
        show pm_E _ _ _ 24 [(0, .ref (pl (60 + 2 * j))), (1, .int (iI x)), (2, .int (iI l)), (3, .int (iI e)), (4, .int (iI i))] [.int (iI i), .ref (pl (60 + 2 * j))] _ _ _ _
        refine pm_e_sim pm_a106_24 rfl ?_
        refine pm_e_top (y := iI 1) (by decide +kernel) ?_
        show pm_E _ _ _ 25 [(0, .ref (pl (60 + 2 * j))), (1, .int (iI x)), (2, .int (iI l)), (3, .int (iI e)), (4, .int (iI i))] [.int (iI 1), .int (iI i), .ref (pl (60 + 2 * j))] _ _ _ _
        refine pm_e_sim pm_a106_25 rfl ?_
        refine pm_e_top (y := iI (i + 1)) (iI_add _ _) ?_
        show pm_E _ _ _ 26 [(0, .ref (pl (60 + 2 * j))), (1, .int (iI x)), (2, .int (iI l)), (3, .int (iI e)), (4, .int (iI i))] [.int (iI (i + 1)), .ref (pl (60 + 2 * j))] _ _ _ _
        refine pm_i_callv (k := (pl (60 + 2 * j))) (T2 := pm_mm47) pm_a106_26 rfl rfl rfl (cg_o hj) ⟨Nat.le_of_ble_eq_true rfl, Nat.le_of_ble_eq_true rfl, rfl, by decide +kernel⟩ ?_
        show pm_E none _ _ 0 [(0, .ref (pl (60 + 2 * j))), (1, .int (iI (i + 1)))] [] _ _ _ _
        refine C_at hW hj rfl hok.1 hok.2.1 ⟨by omega, by omega⟩ ?_
        obtain ⟨_, _⟩ := atI_in hok (i + 1)
        show pm_E _ _ _ 29 [(0, .ref (pl (60 + 2 * j))), (1, .int (iI x)), (2, .int (iI l)), (3, .int (iI e)), (4, .int (iI i))] [.int (iI (atI (c j) (i + 1)))] _ _ _ _
        refine pm_e_sim pm_a106_29 rfl ?_
        show pm_E _ _ _ 30 [(0, .ref (pl (60 + 2 * j))), (1, .int (iI x)), (2, .int (iI l)), (3, .int (iI e)), (4, .int (iI i))] [.int (iI l), .int (iI (atI (c j) (i + 1)))] _ _ _ _
        refine pm_c_ne (t := 39) pm_a106_30 rfl ⟨by omega, by omega⟩ ⟨by omega, by omega⟩ (fun h_7 => ?_) (fun h_7 => ?_)
        · skip
          show pm_E _ _ _ 39 [(0, .ref (pl (60 + 2 * j))), (1, .int (iI x)), (2, .int (iI l)), (3, .int (iI e)), (4, .int (iI i))] [] _ _ _ _
          refine pm_e_sim pm_a106_39 rfl ?_
          show pm_E _ _ _ 40 [(0, .ref (pl (60 + 2 * j))), (1, .int (iI x)), (2, .int (iI l)), (3, .int (iI e)), (4, .int (iI i))] [.ref (pl (60 + 2 * j))] _ _ _ _
          refine pm_e_sim pm_a106_40 rfl ?_
          show pm_E _ _ _ 42 [(0, .ref (pl (60 + 2 * j))), (1, .int (iI x)), (2, .int (iI l)), (3, .int (iI e)), (4, .int (iI i))] [.int (iI i), .ref (pl (60 + 2 * j))] _ _ _ _
          refine pm_i_callv (k := (pl (60 + 2 * j))) (T2 := pm_mm47) pm_a106_42 rfl rfl rfl (cg_o hj) ⟨Nat.le_of_ble_eq_true rfl, Nat.le_of_ble_eq_true rfl, rfl, by decide +kernel⟩ ?_
          show pm_E none _ _ 0 [(0, .ref (pl (60 + 2 * j))), (1, .int (iI i))] [] _ _ _ _
          refine C_at hW hj rfl hok.1 hok.2.1 ⟨by omega, by omega⟩ ?_
          obtain ⟨_, _⟩ := atI_in hok (i)
          show pm_E _ _ _ 45 [(0, .ref (pl (60 + 2 * j))), (1, .int (iI x)), (2, .int (iI l)), (3, .int (iI e)), (4, .int (iI i))] [.int (iI (atI (c j) i))] _ _ _ _
          refine pm_e_sim pm_a106_45 rfl ?_
          show pm_E _ _ _ 46 [(0, .ref (pl (60 + 2 * j))), (1, .int (iI x)), (2, .int (iI l)), (3, .int (iI e)), (4, .int (iI i))] [.int (iI e), .int (iI (atI (c j) i))] _ _ _ _
          refine pm_c_ne (t := 69) pm_a106_46 rfl ⟨by omega, by omega⟩ ⟨by omega, by omega⟩ (fun h_8 => ?_) (fun h_8 => ?_)
          · skip
            show pm_E _ _ _ 69 [(0, .ref (pl (60 + 2 * j))), (1, .int (iI x)), (2, .int (iI l)), (3, .int (iI e)), (4, .int (iI i))] [] _ _ _ _
            refine pm_e_sim pm_a106_69 rfl ?_
            refine pm_e_top (y := iI (-4)) (by decide +kernel) ?_
            show pm_E _ _ _ 71 [(0, .ref (pl (60 + 2 * j))), (1, .int (iI x)), (2, .int (iI l)), (3, .int (iI e)), (4, .int (iI i))] [.int (iI (-4))] _ _ _ _
            refine pm_e_ret pm_a106_71 rfl rfl rfl rfl rfl rfl rfl rfl ?_
            refine k _ ⟨by omega, by omega⟩ ?_
            subst hi
            exact ⟨m, hm0, hlk, by omega, fun ⟨z1, z2⟩ => by have := (tm_link ht z1 (by omega)).1; omega, by omega⟩
          · skip
            show pm_E _ _ _ 49 [(0, .ref (pl (60 + 2 * j))), (1, .int (iI x)), (2, .int (iI l)), (3, .int (iI e)), (4, .int (iI i))] [] _ _ _ _
            refine pm_e_sim pm_a106_49 rfl ?_
            show pm_E _ _ _ 51 [(0, .ref (pl (60 + 2 * j))), (1, .int (iI x)), (2, .int (iI l)), (3, .int (iI e)), (4, .int (iI i))] [.int (iI i)] _ _ _ _
            refine pm_e_sim pm_a106_51 rfl ?_
            refine pm_e_top (y := iI 1) (by decide +kernel) ?_
            show pm_E _ _ _ 52 [(0, .ref (pl (60 + 2 * j))), (1, .int (iI x)), (2, .int (iI l)), (3, .int (iI e)), (4, .int (iI i))] [.int (iI 1), .int (iI i)] _ _ _ _
            refine pm_e_sim pm_a106_52 rfl ?_
            refine pm_e_top (y := iI (i + 1)) (iI_add _ _) ?_
            show pm_E _ _ _ 53 [(0, .ref (pl (60 + 2 * j))), (1, .int (iI x)), (2, .int (iI l)), (3, .int (iI e)), (4, .int (iI i))] [.int (iI (i + 1))] _ _ _ _
            refine pm_e_sim pm_a106_53 rfl ?_
            show pm_E _ _ _ 54 [(0, .ref (pl (60 + 2 * j))), (1, .int (iI x)), (2, .int (iI l)), (3, .int (iI e)), (4, .int (iI i))] [.ref (pl (60 + 2 * j)), .int (iI (i + 1))] _ _ _ _
            refine pm_i_get pm_a106_54 rfl (cg_o hj) rfl ?_
            show pm_E _ _ _ 57 [(0, .ref (pl (60 + 2 * j))), (1, .int (iI x)), (2, .int (iI l)), (3, .int (iI e)), (4, .int (iI i))] [.int (iI ((c j).1)), .int (iI (i + 1))] _ _ _ _
            refine pm_c_ne (t := 69) pm_a106_57 rfl ⟨by omega, by omega⟩ ⟨by omega, by omega⟩ (fun h_9 => ?_) (fun h_9 => ?_)
            · skip
              show pm_E _ _ _ 69 [(0, .ref (pl (60 + 2 * j))), (1, .int (iI x)), (2, .int (iI l)), (3, .int (iI e)), (4, .int (iI i))] [] _ _ _ _
              refine pm_e_sim pm_a106_69 rfl ?_
              refine pm_e_top (y := iI (-4)) (by decide +kernel) ?_
              show pm_E _ _ _ 71 [(0, .ref (pl (60 + 2 * j))), (1, .int (iI x)), (2, .int (iI l)), (3, .int (iI e)), (4, .int (iI i))] [.int (iI (-4))] _ _ _ _
              refine pm_e_ret pm_a106_71 rfl rfl rfl rfl rfl rfl rfl rfl ?_
              refine k _ ⟨by omega, by omega⟩ ?_
              subst hi
              exact ⟨m, hm0, hlk, by omega, fun ⟨z1, z2⟩ => by have := (tm_link ht z1 (by omega)).1; omega, by omega⟩
            · skip
              show pm_E _ _ _ 60 [(0, .ref (pl (60 + 2 * j))), (1, .int (iI x)), (2, .int (iI l)), (3, .int (iI e)), (4, .int (iI i))] [] _ _ _ _
              refine pm_e_sim pm_a106_60 rfl ?_
              show pm_E _ _ _ 62 [(0, .ref (pl (60 + 2 * j))), (1, .int (iI x)), (2, .int (iI l)), (3, .int (iI e)), (4, .int (iI i))] [.int (iI i)] _ _ _ _
              refine pm_e_sim pm_a106_62 rfl ?_
              show pm_E _ _ _ 63 [(0, .ref (pl (60 + 2 * j))), (1, .int (iI x)), (2, .int (iI l)), (3, .int (iI e)), (4, .int (iI i))] [.int (iI x), .int (iI i)] _ _ _ _
              refine pm_e_sim pm_a106_63 rfl ?_
              refine pm_e_top (y := iI (i - x)) (iI_sub _ _) ?_
              show pm_E _ _ _ 64 [(0, .ref (pl (60 + 2 * j))), (1, .int (iI x)), (2, .int (iI l)), (3, .int (iI e)), (4, .int (iI i))] [.int (iI (i - x))] _ _ _ _
              refine pm_e_sim pm_a106_64 rfl ?_
              refine pm_e_top (y := iI 2) (by decide +kernel) ?_
              show pm_E _ _ _ 65 [(0, .ref (pl (60 + 2 * j))), (1, .int (iI x)), (2, .int (iI l)), (3, .int (iI e)), (4, .int (iI i))] [.int (iI 2), .int (iI (i - x))] _ _ _ _
              refine pm_i_dvx (z := iI m) pm_a106_65 (by decide +kernel) (iI_half (by omega) (by omega) (by omega)) ?_
              show pm_E _ _ _ 66 [(0, .ref (pl (60 + 2 * j))), (1, .int (iI x)), (2, .int (iI l)), (3, .int (iI e)), (4, .int (iI i))] [.int (iI m)] _ _ _ _
              refine pm_e_goto pm_a106_66 rfl ?_
              show pm_E _ _ _ 71 [(0, .ref (pl (60 + 2 * j))), (1, .int (iI x)), (2, .int (iI l)), (3, .int (iI e)), (4, .int (iI i))] [.int (iI m)] _ _ _ _
              refine pm_e_ret pm_a106_71 rfl rfl rfl rfl rfl rfl rfl rfl ?_
              refine k _ ⟨by omega, by omega⟩ ?_
              subst hi
              exact ⟨m, hm0, hlk, by omega, fun ⟨z1, z2⟩ => by have := (tm_link ht z1 (by omega)).1; omega, by omega⟩
        · skip
          show pm_E _ _ _ 33 [(0, .ref (pl (60 + 2 * j))), (1, .int (iI x)), (2, .int (iI l)), (3, .int (iI e)), (4, .int (iI i))] [] _ _ _ _
          refine pm_e_inc (y := iI (i + 2)) pm_a106_33 rfl (iI_add _ _) (by decide +kernel) rfl ?_
          show pm_E _ _ _ 36 [(0, .ref (pl (60 + 2 * j))), (1, .int (iI x)), (2, .int (iI l)), (3, .int (iI e)), (4, .int (iI (i + 2)))] [] _ _ _ _
          refine pm_e_goto pm_a106_36 rfl ?_
          show pm_E _ _ _ 3 [(0, .ref (pl (60 + 2 * j))), (1, .int (iI x)), (2, .int (iI l)), (3, .int (iI e)), (4, .int (iI (i + 2)))] [] _ _ _ _
          refine ih (i + 2) (m + 1) (by omega) (by omega) ?_ ?_ (by omega)
          · obtain ⟨_, f', t'⟩ := tm_link ht (by omega) (by omega)
            exact ⟨f', kk, t'⟩
          · intro q q0 q9
            by_cases hq : q = m
            · rw [hq, ← hi]
              exact ⟨(tm_link ht (by omega) (by omega)).1, by omega, by omega⟩
            · exact hlk q q0 (by omega)
set_option maxHeartbeats 4000000 in
set_option maxRecDepth 100000 in
theorem C_chainLength {d n : Nat} {kd pl : Nat → Nat} {s : Nat → Int} {a : Nat → Int → Int} {c : Nat → cdt} {M : List va_E} {Q : Option Value → List va_E → Nat → Nat → Prop} {j : Nat} {x l e : Int} (hW : wf n kd pl) (hj : j < 38 ∧ al n kd pl (60 + 2 * j)) (hok : okx (rm j) (c j)) (hx : 0 ≤ x ∧ x ≤ 1000) (hl : 2 ≤ l ∧ l ≤ 100) (he : in32 e) (ht : ∃ f k, tm (c j).2.2 f k x (c j).1) (k : ∀ r, in32 r → chm (c j).2.2 (c j).1 l e x r → Q (some (.int (iI r))) (ch n kd pl s a c M) 0 0) : pm_E none (d + 1) pm_mm106 0 [(0, .ref (pl (60 + 2 * j))), (1, .int (iI x)), (2, .int (iI l)), (3, .int (iI e))] [] (ch n kd pl s a c M) 0 0 Q := by
  have rb := rm_b j
  obtain ⟨o1, o2, o3, o4⟩ := id hok
  refine pm_e_sim pm_a106_0 rfl ?_
  show pm_E _ _ _ 1 [(0, .ref (pl (60 + 2 * j))), (1, .int (iI x)), (2, .int (iI l)), (3, .int (iI e))] [.int (iI x)] _ _ _ _
  refine pm_e_sim pm_a106_1 rfl ?_
  show pm_E _ _ _ 3 [(0, .ref (pl (60 + 2 * j))), (1, .int (iI x)), (2, .int (iI l)), (3, .int (iI e)), (4, .int (iI x))] [] _ _ _ _
  exact C_chain_l hW hj hok hx hl he k 2001 x 0 (by omega) (by omega) ht (fun q q0 q9 => by omega) (by omega)
set_option maxHeartbeats 4000000 in
set_option maxRecDepth 100000 in
theorem C_numberOf {d n : Nat} {kd pl : Nat → Nat} {s : Nat → Int} {a : Nat → Int → Int} {c : Nat → cdt} {M : List va_E} {Q : Option Value → List va_E → Nat → Nat → Prop} {j ft : Nat} {k0 : Int} (hW : wf n kd pl) (hj : j < 38 ∧ al n kd pl (60 + 2 * j)) (hok : okx (rm j) (c j)) (ht : tm (c j).2.2 ft k0 0 (c j).1) (k : ∀ r, in32 r → nbR (c j).2.2 (c j).1 r → Q (some (.int (iI r))) (ch n kd pl s a c M) 0 0) : pm_E none (d + 2) pm_mm105 0 [(0, .ref (pl (60 + 2 * j)))] [] (ch n kd pl s a c M) 0 0 Q := by
  have rb := rm_b j
  obtain ⟨o1, o2, o3, o4⟩ := id hok
  have hlt := tm_lt ht
  have w0 : atI (c j) 0 = (c j).2.2 0 := atI_y (by omega) (by omega)
  have w1 : (c j).2.2 0 ≠ 1 ∨ atI (c j) 1 = (c j).2.2 1 := by
    rcases (num_f ht).1 with z | z
    · exact Or.inl z
    · exact Or.inr (atI_y (by omega) (by omega))
  refine pm_e_sim pm_a105_0 rfl ?_
  show pm_E _ _ _ 1 [(0, .ref (pl (60 + 2 * j)))] [.ref (pl (60 + 2 * j))] _ _ _ _
  refine pm_e_sim pm_a105_1 rfl ?_
  refine pm_e_top (y := iI 0) (by decide +kernel) ?_
  show pm_E _ _ _ 2 [(0, .ref (pl (60 + 2 * j)))] [.int (iI 0), .ref (pl (60 + 2 * j))] _ _ _ _
  refine pm_i_callv (k := (pl (60 + 2 * j))) (T2 := pm_mm47) pm_a105_2 rfl rfl rfl (cg_o hj) ⟨Nat.le_of_ble_eq_true rfl, Nat.le_of_ble_eq_true rfl, rfl, by decide +kernel⟩ ?_
  show pm_E none _ _ 0 [(0, .ref (pl (60 + 2 * j))), (1, .int (iI 0))] [] _ _ _ _
  refine C_at hW hj rfl hok.1 hok.2.1 ⟨by omega, by omega⟩ ?_
  obtain ⟨_, _⟩ := atI_in hok (0)
  show pm_E _ _ _ 5 [(0, .ref (pl (60 + 2 * j)))] [.int (iI (atI (c j) 0))] _ _ _ _
  refine pm_e_sim pm_a105_5 rfl ?_
  refine pm_e_top (y := iI 1) (by decide +kernel) ?_
  show pm_E _ _ _ 6 [(0, .ref (pl (60 + 2 * j)))] [.int (iI 1), .int (iI (atI (c j) 0))] _ _ _ _
  refine pm_c_eq (t := 18) pm_a105_6 rfl ⟨by omega, by omega⟩ ⟨by omega, by omega⟩ (fun h_1 => ?_) (fun h_1 => ?_)
  · skip
    show pm_E _ _ _ 18 [(0, .ref (pl (60 + 2 * j)))] [] _ _ _ _
    refine pm_e_sim pm_a105_18 rfl ?_
    show pm_E _ _ _ 19 [(0, .ref (pl (60 + 2 * j)))] [.ref (pl (60 + 2 * j))] _ _ _ _
    refine pm_e_sim pm_a105_19 rfl ?_
    refine pm_e_top (y := iI 1) (by decide +kernel) ?_
    show pm_E _ _ _ 20 [(0, .ref (pl (60 + 2 * j)))] [.int (iI 1), .ref (pl (60 + 2 * j))] _ _ _ _
    refine pm_i_callv (k := (pl (60 + 2 * j))) (T2 := pm_mm47) pm_a105_20 rfl rfl rfl (cg_o hj) ⟨Nat.le_of_ble_eq_true rfl, Nat.le_of_ble_eq_true rfl, rfl, by decide +kernel⟩ ?_
    show pm_E none _ _ 0 [(0, .ref (pl (60 + 2 * j))), (1, .int (iI 1))] [] _ _ _ _
    refine C_at hW hj rfl hok.1 hok.2.1 ⟨by omega, by omega⟩ ?_
    obtain ⟨_, _⟩ := atI_in hok (1)
    show pm_E _ _ _ 23 [(0, .ref (pl (60 + 2 * j)))] [.int (iI (atI (c j) 1))] _ _ _ _
    refine pm_e_sim pm_a105_23 rfl ?_
    refine pm_e_top (y := iI 1) (by decide +kernel) ?_
    show pm_E _ _ _ 24 [(0, .ref (pl (60 + 2 * j)))] [.int (iI 1), .int (iI (atI (c j) 1))] _ _ _ _
    refine pm_c_ne (t := 37) pm_a105_24 rfl ⟨by omega, by omega⟩ ⟨by omega, by omega⟩ (fun h_2 => ?_) (fun h_2 => ?_)
    · skip
      show pm_E _ _ _ 37 [(0, .ref (pl (60 + 2 * j)))] [] _ _ _ _
      refine pm_e_sim pm_a105_37 rfl ?_
      show pm_E _ _ _ 38 [(0, .ref (pl (60 + 2 * j)))] [.ref (pl (60 + 2 * j))] _ _ _ _
      refine pm_e_sim pm_a105_38 rfl ?_
      refine pm_e_top (y := iI 1) (by decide +kernel) ?_
      show pm_E _ _ _ 39 [(0, .ref (pl (60 + 2 * j)))] [.int (iI 1), .ref (pl (60 + 2 * j))] _ _ _ _
      refine pm_i_callv (k := (pl (60 + 2 * j))) (T2 := pm_mm47) pm_a105_39 rfl rfl rfl (cg_o hj) ⟨Nat.le_of_ble_eq_true rfl, Nat.le_of_ble_eq_true rfl, rfl, by decide +kernel⟩ ?_
      show pm_E none _ _ 0 [(0, .ref (pl (60 + 2 * j))), (1, .int (iI 1))] [] _ _ _ _
      refine C_at hW hj rfl hok.1 hok.2.1 ⟨by omega, by omega⟩ ?_
      obtain ⟨_, _⟩ := atI_in hok (1)
      show pm_E _ _ _ 42 [(0, .ref (pl (60 + 2 * j)))] [.int (iI (atI (c j) 1))] _ _ _ _
      refine pm_e_sim pm_a105_42 rfl ?_
      refine pm_e_top (y := iI 10) (by decide +kernel) ?_
      show pm_E _ _ _ 44 [(0, .ref (pl (60 + 2 * j)))] [.int (iI 10), .int (iI (atI (c j) 1))] _ _ _ _
      refine pm_c_ne (t := 51) pm_a105_44 rfl ⟨by omega, by omega⟩ ⟨by omega, by omega⟩ (fun h_3 => ?_) (fun h_3 => ?_)
      · skip
        show pm_E _ _ _ 51 [(0, .ref (pl (60 + 2 * j)))] [] _ _ _ _
        refine pm_e_sim pm_a105_51 rfl ?_
        refine pm_e_top (y := iI (-4)) (by decide +kernel) ?_
        show pm_E _ _ _ 53 [(0, .ref (pl (60 + 2 * j)))] [.int (iI (-4))] _ _ _ _
        refine pm_e_ret pm_a105_53 rfl rfl rfl rfl rfl rfl rfl rfl ?_
        exact k _ (by decide) (Or.inr (Or.inr ⟨by omega, by omega, Or.inr ⟨by omega, rfl⟩⟩))
      · skip
        show pm_E _ _ _ 47 [(0, .ref (pl (60 + 2 * j)))] [] _ _ _ _
        refine pm_e_sim pm_a105_47 rfl ?_
        refine pm_e_top (y := iI 1) (by decide +kernel) ?_
        show pm_E _ _ _ 48 [(0, .ref (pl (60 + 2 * j)))] [.int (iI 1)] _ _ _ _
        refine pm_e_goto pm_a105_48 rfl ?_
        show pm_E _ _ _ 53 [(0, .ref (pl (60 + 2 * j)))] [.int (iI 1)] _ _ _ _
        refine pm_e_ret pm_a105_53 rfl rfl rfl rfl rfl rfl rfl rfl ?_
        exact k _ (by decide) (Or.inr (Or.inr ⟨by omega, by omega, Or.inl ⟨by omega, rfl⟩⟩))
    · skip
      show pm_E _ _ _ 27 [(0, .ref (pl (60 + 2 * j)))] [] _ _ _ _
      refine pm_e_sim pm_a105_27 rfl ?_
      show pm_E _ _ _ 28 [(0, .ref (pl (60 + 2 * j)))] [.ref (pl (60 + 2 * j))] _ _ _ _
      refine pm_e_sim pm_a105_28 rfl ?_
      refine pm_e_top (y := iI 2) (by decide +kernel) ?_
      show pm_E _ _ _ 29 [(0, .ref (pl (60 + 2 * j)))] [.int (iI 2), .ref (pl (60 + 2 * j))] _ _ _ _
      refine pm_e_sim pm_a105_29 rfl ?_
      refine pm_e_top (y := iI 11) (by decide +kernel) ?_
      show pm_E _ _ _ 31 [(0, .ref (pl (60 + 2 * j)))] [.int (iI 11), .int (iI 2), .ref (pl (60 + 2 * j))] _ _ _ _
      refine pm_e_sim pm_a105_31 rfl ?_
      refine pm_e_top (y := iI 10) (by decide +kernel) ?_
      show pm_E _ _ _ 33 [(0, .ref (pl (60 + 2 * j)))] [.int (iI 10), .int (iI 11), .int (iI 2), .ref (pl (60 + 2 * j))] _ _ _ _
      refine pm_e_call (T2 := pm_mm106) pm_a105_33 rfl rfl rfl rfl rfl rfl rfl rfl rfl ?_
      show pm_E none _ _ 0 [(0, .ref (pl (60 + 2 * j))), (1, .int (iI 2)), (2, .int (iI 11)), (3, .int (iI 10))] [] _ _ _ _
      refine C_chainLength hW hj hok ⟨by omega, by omega⟩ (by decide) (by decide) (by obtain ⟨f2, t2⟩ := num_t2 ht (by omega) (by omega); exact ⟨f2, _, t2⟩) (fun r hr hc => ?_)
      show pm_E _ _ _ 36 [(0, .ref (pl (60 + 2 * j)))] [.int (iI r)] _ _ _ _
      refine pm_e_ret pm_a105_36 rfl rfl rfl rfl rfl rfl rfl rfl ?_
      exact k _ hr (Or.inr (Or.inl ⟨by omega, by omega, hc⟩))
  · skip
    show pm_E _ _ _ 9 [(0, .ref (pl (60 + 2 * j)))] [] _ _ _ _
    refine pm_e_sim pm_a105_9 rfl ?_
    show pm_E _ _ _ 10 [(0, .ref (pl (60 + 2 * j)))] [.ref (pl (60 + 2 * j))] _ _ _ _
    refine pm_e_sim pm_a105_10 rfl ?_
    refine pm_e_top (y := iI 0) (by decide +kernel) ?_
    show pm_E _ _ _ 11 [(0, .ref (pl (60 + 2 * j)))] [.int (iI 0), .ref (pl (60 + 2 * j))] _ _ _ _
    refine pm_e_sim pm_a105_11 rfl ?_
    refine pm_e_top (y := iI 5) (by decide +kernel) ?_
    show pm_E _ _ _ 12 [(0, .ref (pl (60 + 2 * j)))] [.int (iI 5), .int (iI 0), .ref (pl (60 + 2 * j))] _ _ _ _
    refine pm_e_sim pm_a105_12 rfl ?_
    refine pm_e_top (y := iI 6) (by decide +kernel) ?_
    show pm_E _ _ _ 14 [(0, .ref (pl (60 + 2 * j)))] [.int (iI 6), .int (iI 5), .int (iI 0), .ref (pl (60 + 2 * j))] _ _ _ _
    refine pm_e_call (T2 := pm_mm106) pm_a105_14 rfl rfl rfl rfl rfl rfl rfl rfl rfl ?_
    show pm_E none _ _ 0 [(0, .ref (pl (60 + 2 * j))), (1, .int (iI 0)), (2, .int (iI 5)), (3, .int (iI 6))] [] _ _ _ _
    refine C_chainLength hW hj hok ⟨by omega, by omega⟩ (by decide) (by decide) ⟨_, _, ht⟩ (fun r hr hc => ?_)
    show pm_E _ _ _ 17 [(0, .ref (pl (60 + 2 * j)))] [.int (iI r)] _ _ _ _
    refine pm_e_ret pm_a105_17 rfl rfl rfl rfl rfl rfl rfl rfl ?_
    exact k _ hr (Or.inl ⟨by omega, hc⟩)
set_option maxHeartbeats 4000000 in
set_option maxRecDepth 100000 in
theorem C_tat {d n : Nat} {kd pl : Nat → Nat} {s : Nat → Int} {a : Nat → Int → Int} {c : Nat → cdt} {M : List va_E} {Q : Option Value → List va_E → Nat → Nat → Prop} {p : Int} (hW : wf n kd pl) (h0 : 0 ≤ s 4) (h1 : s 4 ≤ 600) (hp : in32 p) (k1 : 0 ≤ p → p < s 4 → Q (some (.int (iI (a 0 p)))) (ch n kd pl s a c M) 0 0) (k0 : p < 0 ∨ s 4 ≤ p → Q (some (.int (iI (-1)))) (ch n kd pl s a c M) 0 0) : pm_E none d pm_mm19 0 [(0, .ref (pl 1)), (1, .int (iI p))] [] (ch n kd pl s a c M) 0 0 Q := by
  obtain ⟨_, _⟩ := id hp
  refine pm_e_sim pm_a19_0 rfl ?_
  show pm_E _ _ _ 1 [(0, .ref (pl 1)), (1, .int (iI p))] [.int (iI p)] _ _ _ _
  refine pm_i_lt (t := 30) pm_a19_1 rfl ⟨by omega, by omega⟩ (fun h_1 => ?_) (fun h_1 => ?_)
  · skip
    show pm_E _ _ _ 30 [(0, .ref (pl 1)), (1, .int (iI p))] [] _ _ _ _
    refine pm_e_sim pm_a19_30 rfl ?_
    refine pm_e_top (y := iI (-1)) (by decide +kernel) ?_
    show pm_E _ _ _ 31 [(0, .ref (pl 1)), (1, .int (iI p))] [.int (iI (-1))] _ _ _ _
    refine pm_e_ret pm_a19_31 rfl rfl rfl rfl rfl rfl rfl rfl ?_
    exact k0 (by omega)
  · skip
    show pm_E _ _ _ 4 [(0, .ref (pl 1)), (1, .int (iI p))] [] _ _ _ _
    refine pm_e_sim pm_a19_4 rfl ?_
    show pm_E _ _ _ 5 [(0, .ref (pl 1)), (1, .int (iI p))] [.int (iI p)] _ _ _ _
    refine pm_e_sim pm_a19_5 rfl ?_
    show pm_E _ _ _ 6 [(0, .ref (pl 1)), (1, .int (iI p))] [.ref (pl 1), .int (iI p)] _ _ _ _
    refine pm_i_get pm_a19_6 rfl (cg_1 hW) rfl ?_
    show pm_E _ _ _ 9 [(0, .ref (pl 1)), (1, .int (iI p))] [.int (iI (s 4)), .int (iI p)] _ _ _ _
    refine pm_c_ge (t := 30) pm_a19_9 rfl ⟨by omega, by omega⟩ ⟨by omega, by omega⟩ (fun h_2 => ?_) (fun h_2 => ?_)
    · skip
      show pm_E _ _ _ 30 [(0, .ref (pl 1)), (1, .int (iI p))] [] _ _ _ _
      refine pm_e_sim pm_a19_30 rfl ?_
      refine pm_e_top (y := iI (-1)) (by decide +kernel) ?_
      show pm_E _ _ _ 31 [(0, .ref (pl 1)), (1, .int (iI p))] [.int (iI (-1))] _ _ _ _
      refine pm_e_ret pm_a19_31 rfl rfl rfl rfl rfl rfl rfl rfl ?_
      exact k0 (by omega)
    · skip
      show pm_E _ _ _ 12 [(0, .ref (pl 1)), (1, .int (iI p))] [] _ _ _ _
      refine pm_e_sim pm_a19_12 rfl ?_
      show pm_E _ _ _ 13 [(0, .ref (pl 1)), (1, .int (iI p))] [.int (iI p)] _ _ _ _
      refine pm_e_sim pm_a19_13 rfl ?_
      show pm_E _ _ _ 14 [(0, .ref (pl 1)), (1, .int (iI p))] [.ref (pl 1), .int (iI p)] _ _ _ _
      refine pm_i_get pm_a19_14 rfl (cg_1 hW) rfl ?_
      show pm_E _ _ _ 17 [(0, .ref (pl 1)), (1, .int (iI p))] [.ref (pl 2), .int (iI p)] _ _ _ _
      refine pm_i_aln pm_a19_17 (cg_2 hW) ?_
      show pm_E _ _ _ 18 [(0, .ref (pl 1)), (1, .int (iI p))] [.int (iI 600), .int (iI p)] _ _ _ _
      refine pm_c_ge (t := 30) pm_a19_18 rfl ⟨by omega, by omega⟩ ⟨by omega, by omega⟩ (fun h_3 => ?_) (fun h_3 => ?_)
      · skip
        show pm_E _ _ _ 30 [(0, .ref (pl 1)), (1, .int (iI p))] [] _ _ _ _
        refine pm_e_sim pm_a19_30 rfl ?_
        refine pm_e_top (y := iI (-1)) (by decide +kernel) ?_
        show pm_E _ _ _ 31 [(0, .ref (pl 1)), (1, .int (iI p))] [.int (iI (-1))] _ _ _ _
        refine pm_e_ret pm_a19_31 rfl rfl rfl rfl rfl rfl rfl rfl ?_
        exact k0 (by omega)
      · skip
        show pm_E _ _ _ 21 [(0, .ref (pl 1)), (1, .int (iI p))] [] _ _ _ _
        refine pm_e_sim pm_a19_21 rfl ?_
        show pm_E _ _ _ 22 [(0, .ref (pl 1)), (1, .int (iI p))] [.ref (pl 1)] _ _ _ _
        refine pm_i_get pm_a19_22 rfl (cg_1 hW) rfl ?_
        show pm_E _ _ _ 25 [(0, .ref (pl 1)), (1, .int (iI p))] [.ref (pl 2)] _ _ _ _
        refine pm_e_sim pm_a19_25 rfl ?_
        show pm_E _ _ _ 26 [(0, .ref (pl 1)), (1, .int (iI p))] [.int (iI p), .ref (pl 2)] _ _ _ _
        refine pm_i_ald pm_a19_26 (cg_2 hW) (by omega) (by omega) ⟨by omega, by omega⟩ ?_
        show pm_E _ _ _ 27 [(0, .ref (pl 1)), (1, .int (iI p))] [.int (iI ((a 0) (p)))] _ _ _ _
        refine pm_e_goto pm_a19_27 rfl ?_
        show pm_E _ _ _ 31 [(0, .ref (pl 1)), (1, .int (iI p))] [.int (iI ((a 0) (p)))] _ _ _ _
        refine pm_e_ret pm_a19_31 rfl rfl rfl rfl rfl rfl rfl rfl ?_
        exact k1 (by omega) (by omega)
