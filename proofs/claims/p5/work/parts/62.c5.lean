/-! THE CLASS: Turner: where a step is -/
/-- the first place below z of which P holds, or -4 -/
def fsx (P : Int → Prop) (z r : Int) : Prop := (r = -4 ∧ ∀ p, 0 ≤ p → p < z → ¬ P p) ∨ (0 ≤ r ∧ r < z ∧ P r ∧ ∀ p, 0 ≤ p → p < r → ¬ P p)
theorem fsx_eq {P P' : Int → Prop} {z r : Int} (h : ∀ p, 0 ≤ p → p < z → (P p ↔ P' p)) (f : fsx P z r) : fsx P' z r := by
  rcases f with ⟨h1, h2⟩ | ⟨h1, h2, h3, h4⟩
  · exact Or.inl ⟨h1, fun p a b c => h2 p a b ((h p a b).mpr c)⟩
  · exact Or.inr ⟨h1, h2, (h r h1 h2).mp h3, fun p a b c => h4 p a b ((h p a (by omega)).mpr c)⟩
def rul (y : cdt) (p : Int) : Int := if atI y p = 0 then (if atI y (p + 1) = 1 then 1 else if atI y (p + 1) = 4 then 4 else if atI y (p + 1) = 0 then (if atI y (p + 2) = 3 then 3 else if atI y (p + 2) = 0 then (if atI y (p + 3) = 2 then 2 else -1) else -1) else -1) else -1
theorem rul_in (y : cdt) (p : Int) : -1 ≤ rul y p ∧ rul y p ≤ 4 := by
  unfold rul
  repeat' split
  all_goals decide
theorem rul_rdx {y : cdt} {p e k : Int} {f : Nat} (t : tm y.2.2 f k p e) (h0 : 0 ≤ p) (he : e ≤ y.1) : rul y p ≠ -1 ↔ rdx y.2.2 p = 1 := by
  have lt := tm_lt t
  unfold rul rdx
  rw [atI_y h0 (by omega)]
  by_cases h0 : y.2.2 p = 0
  · obtain ⟨f1, m, t1, t2, _⟩ := tm_app t h0
    have l1 := tm_lt t1; have l2 := tm_lt t2
    rw [if_pos h0, if_pos h0, atI_y (by omega) (by omega)]
    by_cases h1 : y.2.2 (p + 1) = 1
    · rw [if_pos h1, if_pos h1]; decide
    · rw [if_neg h1, if_neg h1]
      by_cases h2 : y.2.2 (p + 1) = 4
      · rw [if_pos h2, if_pos h2]; decide
      · rw [if_neg h2, if_neg h2]
        by_cases h3 : y.2.2 (p + 1) = 0
        · rw [if_pos h3, if_pos h3]
          obtain ⟨f2, m2, t3, t4, _⟩ := tm_app t1 h3
          have l3 := tm_lt t3; have l4 := tm_lt t4
          rw [show p + 1 + 1 = p + 2 by omega] at t3 l3
          rw [atI_y (i := p + 2) (by omega) (by omega)]
          by_cases h4 : y.2.2 (p + 2) = 3
          · rw [if_pos h4, if_pos h4]; decide
          · rw [if_neg h4, if_neg h4]
            by_cases h5 : y.2.2 (p + 2) = 0
            · obtain ⟨f3, m3, t5, t6, _⟩ := tm_app t3 h5
              have l5 := tm_lt t5; have l6 := tm_lt t6
              rw [show p + 2 + 1 = p + 3 by omega] at l5
              rw [if_pos h5, if_pos h5, atI_y (i := p + 3) (by omega) (by omega)]
              by_cases h6 : y.2.2 (p + 3) = 2
              · rw [if_pos h6, if_pos h6]; decide
              · rw [if_neg h6, if_neg h6]; decide
            · rw [if_neg h5, if_neg h5]; decide
        · rw [if_neg h3, if_neg h3]; decide
  · rw [if_neg h0, if_neg h0]; decide
set_option maxHeartbeats 4000000 in
set_option maxRecDepth 100000 in
theorem C_ruleAt {d n : Nat} {kd pl : Nat → Nat} {s : Nat → Int} {a : Nat → Int → Int} {c : Nat → cdt} {M : List va_E} {Q : Option Value → List va_E → Nat → Nat → Prop} {j : Nat} {p : Int} {y : cdt} (hW : wf n kd pl) (hj : j < 38 ∧ al n kd pl (60 + 2 * j)) (hy : c j = y) (hok : okx (rm j) y) (hp : -1000 ≤ p ∧ p ≤ 100000) (k : Q (some (.int (iI (rul y p)))) (ch n kd pl s a c M) 0 0) : pm_E none (d + 1) pm_mm68 0 [(0, .ref (pl (60 + 2 * j))), (1, .int (iI p))] [] (ch n kd pl s a c M) 0 0 Q := by
  subst hy
  have rb := rm_b j
  obtain ⟨o1, o2, o3, o4⟩ := id hok
  refine pm_e_sim pm_a68_0 rfl ?_
  show pm_E _ _ _ 1 [(0, .ref (pl (60 + 2 * j))), (1, .int (iI p))] [.ref (pl (60 + 2 * j))] _ _ _ _
  refine pm_e_sim pm_a68_1 rfl ?_
  show pm_E _ _ _ 2 [(0, .ref (pl (60 + 2 * j))), (1, .int (iI p))] [.int (iI p), .ref (pl (60 + 2 * j))] _ _ _ _
  refine pm_i_callv (k := (pl (60 + 2 * j))) (T2 := pm_mm47) pm_a68_2 rfl rfl rfl (cg_o hj) ⟨Nat.le_of_ble_eq_true rfl, Nat.le_of_ble_eq_true rfl, rfl, by decide +kernel⟩ ?_
  show pm_E none _ _ 0 [(0, .ref (pl (60 + 2 * j))), (1, .int (iI p))] [] _ _ _ _
  refine C_at hW hj rfl hok.1 hok.2.1 ⟨by omega, by omega⟩ ?_
  obtain ⟨_, _⟩ := atI_in hok (p)
  show pm_E _ _ _ 5 [(0, .ref (pl (60 + 2 * j))), (1, .int (iI p))] [.int (iI (atI (c j) p))] _ _ _ _
  refine pm_i_eq (t := 10) pm_a68_5 rfl ⟨by omega, by omega⟩ (fun h_1 => ?_) (fun h_1 => ?_)
  · skip
    show pm_E _ _ _ 10 [(0, .ref (pl (60 + 2 * j))), (1, .int (iI p))] [] _ _ _ _
    refine pm_e_sim pm_a68_10 rfl ?_
    show pm_E _ _ _ 11 [(0, .ref (pl (60 + 2 * j))), (1, .int (iI p))] [.ref (pl (60 + 2 * j))] _ _ _ _
    refine pm_e_sim pm_a68_11 rfl ?_
    show pm_E _ _ _ 12 [(0, .ref (pl (60 + 2 * j))), (1, .int (iI p))] [.int (iI p), .ref (pl (60 + 2 * j))] _ _ _ _
    refine pm_e_sim pm_a68_12 rfl ?_
    refine pm_e_top (y := iI 1) (by decide +kernel) ?_
    show pm_E _ _ _ 13 [(0, .ref (pl (60 + 2 * j))), (1, .int (iI p))] [.int (iI 1), .int (iI p), .ref (pl (60 + 2 * j))] _ _ _ _
    refine pm_e_sim pm_a68_13 rfl ?_
    refine pm_e_top (y := iI (p + 1)) (iI_add _ _) ?_
    show pm_E _ _ _ 14 [(0, .ref (pl (60 + 2 * j))), (1, .int (iI p))] [.int (iI (p + 1)), .ref (pl (60 + 2 * j))] _ _ _ _
    refine pm_i_callv (k := (pl (60 + 2 * j))) (T2 := pm_mm47) pm_a68_14 rfl rfl rfl (cg_o hj) ⟨Nat.le_of_ble_eq_true rfl, Nat.le_of_ble_eq_true rfl, rfl, by decide +kernel⟩ ?_
    show pm_E none _ _ 0 [(0, .ref (pl (60 + 2 * j))), (1, .int (iI (p + 1)))] [] _ _ _ _
    refine C_at hW hj rfl hok.1 hok.2.1 ⟨by omega, by omega⟩ ?_
    obtain ⟨_, _⟩ := atI_in hok (p + 1)
    show pm_E _ _ _ 17 [(0, .ref (pl (60 + 2 * j))), (1, .int (iI p))] [.int (iI (atI (c j) (p + 1)))] _ _ _ _
    refine pm_e_sim pm_a68_17 rfl ?_
    show pm_E _ _ _ 18 [(0, .ref (pl (60 + 2 * j))), (1, .int (iI p)), (2, .int (iI (atI (c j) (p + 1))))] [] _ _ _ _
    refine pm_e_sim pm_a68_18 rfl ?_
    show pm_E _ _ _ 19 [(0, .ref (pl (60 + 2 * j))), (1, .int (iI p)), (2, .int (iI (atI (c j) (p + 1))))] [.int (iI (atI (c j) (p + 1)))] _ _ _ _
    refine pm_e_sim pm_a68_19 rfl ?_
    refine pm_e_top (y := iI 1) (by decide +kernel) ?_
    show pm_E _ _ _ 20 [(0, .ref (pl (60 + 2 * j))), (1, .int (iI p)), (2, .int (iI (atI (c j) (p + 1))))] [.int (iI 1), .int (iI (atI (c j) (p + 1)))] _ _ _ _
    refine pm_c_eq (t := 28) pm_a68_20 rfl ⟨by omega, by omega⟩ ⟨by omega, by omega⟩ (fun h_2 => ?_) (fun h_2 => ?_)
    · skip
      show pm_E _ _ _ 28 [(0, .ref (pl (60 + 2 * j))), (1, .int (iI p)), (2, .int (iI (atI (c j) (p + 1))))] [] _ _ _ _
      refine pm_e_sim pm_a68_28 rfl ?_
      show pm_E _ _ _ 29 [(0, .ref (pl (60 + 2 * j))), (1, .int (iI p)), (2, .int (iI (atI (c j) (p + 1))))] [.int (iI (atI (c j) (p + 1)))] _ _ _ _
      refine pm_e_ret pm_a68_29 rfl rfl rfl rfl rfl rfl rfl rfl ?_
      rw [show rul (c j) p = atI (c j) (p + 1) by unfold rul; repeat (first | rw [if_pos (by omega)] | rw [if_neg (by omega)]); omega] at k
      exact k
    · skip
      show pm_E _ _ _ 23 [(0, .ref (pl (60 + 2 * j))), (1, .int (iI p)), (2, .int (iI (atI (c j) (p + 1))))] [] _ _ _ _
      refine pm_e_sim pm_a68_23 rfl ?_
      show pm_E _ _ _ 24 [(0, .ref (pl (60 + 2 * j))), (1, .int (iI p)), (2, .int (iI (atI (c j) (p + 1))))] [.int (iI (atI (c j) (p + 1)))] _ _ _ _
      refine pm_e_sim pm_a68_24 rfl ?_
      refine pm_e_top (y := iI 4) (by decide +kernel) ?_
      show pm_E _ _ _ 25 [(0, .ref (pl (60 + 2 * j))), (1, .int (iI p)), (2, .int (iI (atI (c j) (p + 1))))] [.int (iI 4), .int (iI (atI (c j) (p + 1)))] _ _ _ _
      refine pm_c_ne (t := 30) pm_a68_25 rfl ⟨by omega, by omega⟩ ⟨by omega, by omega⟩ (fun h_3 => ?_) (fun h_3 => ?_)
      · skip
        show pm_E _ _ _ 30 [(0, .ref (pl (60 + 2 * j))), (1, .int (iI p)), (2, .int (iI (atI (c j) (p + 1))))] [] _ _ _ _
        refine pm_e_sim pm_a68_30 rfl ?_
        show pm_E _ _ _ 31 [(0, .ref (pl (60 + 2 * j))), (1, .int (iI p)), (2, .int (iI (atI (c j) (p + 1))))] [.int (iI (atI (c j) (p + 1)))] _ _ _ _
        refine pm_i_eq (t := 36) pm_a68_31 rfl ⟨by omega, by omega⟩ (fun h_4 => ?_) (fun h_4 => ?_)
        · skip
          show pm_E _ _ _ 36 [(0, .ref (pl (60 + 2 * j))), (1, .int (iI p)), (2, .int (iI (atI (c j) (p + 1))))] [] _ _ _ _
          refine pm_e_sim pm_a68_36 rfl ?_
          show pm_E _ _ _ 37 [(0, .ref (pl (60 + 2 * j))), (1, .int (iI p)), (2, .int (iI (atI (c j) (p + 1))))] [.ref (pl (60 + 2 * j))] _ _ _ _
          refine pm_e_sim pm_a68_37 rfl ?_
          show pm_E _ _ _ 38 [(0, .ref (pl (60 + 2 * j))), (1, .int (iI p)), (2, .int (iI (atI (c j) (p + 1))))] [.int (iI p), .ref (pl (60 + 2 * j))] _ _ _ _
          refine pm_e_sim pm_a68_38 rfl ?_
          refine pm_e_top (y := iI 2) (by decide +kernel) ?_
          show pm_E _ _ _ 39 [(0, .ref (pl (60 + 2 * j))), (1, .int (iI p)), (2, .int (iI (atI (c j) (p + 1))))] [.int (iI 2), .int (iI p), .ref (pl (60 + 2 * j))] _ _ _ _
          refine pm_e_sim pm_a68_39 rfl ?_
          refine pm_e_top (y := iI (p + 2)) (iI_add _ _) ?_
          show pm_E _ _ _ 40 [(0, .ref (pl (60 + 2 * j))), (1, .int (iI p)), (2, .int (iI (atI (c j) (p + 1))))] [.int (iI (p + 2)), .ref (pl (60 + 2 * j))] _ _ _ _
          refine pm_i_callv (k := (pl (60 + 2 * j))) (T2 := pm_mm47) pm_a68_40 rfl rfl rfl (cg_o hj) ⟨Nat.le_of_ble_eq_true rfl, Nat.le_of_ble_eq_true rfl, rfl, by decide +kernel⟩ ?_
          show pm_E none _ _ 0 [(0, .ref (pl (60 + 2 * j))), (1, .int (iI (p + 2)))] [] _ _ _ _
          refine C_at hW hj rfl hok.1 hok.2.1 ⟨by omega, by omega⟩ ?_
          obtain ⟨_, _⟩ := atI_in hok (p + 2)
          show pm_E _ _ _ 43 [(0, .ref (pl (60 + 2 * j))), (1, .int (iI p)), (2, .int (iI (atI (c j) (p + 1))))] [.int (iI (atI (c j) (p + 2)))] _ _ _ _
          refine pm_e_sim pm_a68_43 rfl ?_
          show pm_E _ _ _ 44 [(0, .ref (pl (60 + 2 * j))), (1, .int (iI p)), (2, .int (iI (atI (c j) (p + 1)))), (3, .int (iI (atI (c j) (p + 2))))] [] _ _ _ _
          refine pm_e_sim pm_a68_44 rfl ?_
          show pm_E _ _ _ 45 [(0, .ref (pl (60 + 2 * j))), (1, .int (iI p)), (2, .int (iI (atI (c j) (p + 1)))), (3, .int (iI (atI (c j) (p + 2))))] [.int (iI (atI (c j) (p + 2)))] _ _ _ _
          refine pm_e_sim pm_a68_45 rfl ?_
          refine pm_e_top (y := iI 3) (by decide +kernel) ?_
          show pm_E _ _ _ 46 [(0, .ref (pl (60 + 2 * j))), (1, .int (iI p)), (2, .int (iI (atI (c j) (p + 1)))), (3, .int (iI (atI (c j) (p + 2))))] [.int (iI 3), .int (iI (atI (c j) (p + 2)))] _ _ _ _
          refine pm_c_ne (t := 51) pm_a68_46 rfl ⟨by omega, by omega⟩ ⟨by omega, by omega⟩ (fun h_5 => ?_) (fun h_5 => ?_)
          · skip
            show pm_E _ _ _ 51 [(0, .ref (pl (60 + 2 * j))), (1, .int (iI p)), (2, .int (iI (atI (c j) (p + 1)))), (3, .int (iI (atI (c j) (p + 2))))] [] _ _ _ _
            refine pm_e_sim pm_a68_51 rfl ?_
            show pm_E _ _ _ 52 [(0, .ref (pl (60 + 2 * j))), (1, .int (iI p)), (2, .int (iI (atI (c j) (p + 1)))), (3, .int (iI (atI (c j) (p + 2))))] [.int (iI (atI (c j) (p + 2)))] _ _ _ _
            refine pm_i_ne (t := 70) pm_a68_52 rfl ⟨by omega, by omega⟩ (fun h_6 => ?_) (fun h_6 => ?_)
            · skip
              show pm_E _ _ _ 70 [(0, .ref (pl (60 + 2 * j))), (1, .int (iI p)), (2, .int (iI (atI (c j) (p + 1)))), (3, .int (iI (atI (c j) (p + 2))))] [] _ _ _ _
              refine pm_e_sim pm_a68_70 rfl ?_
              refine pm_e_top (y := iI (-1)) (by decide +kernel) ?_
              show pm_E _ _ _ 71 [(0, .ref (pl (60 + 2 * j))), (1, .int (iI p)), (2, .int (iI (atI (c j) (p + 1)))), (3, .int (iI (atI (c j) (p + 2))))] [.int (iI (-1))] _ _ _ _
              refine pm_e_ret pm_a68_71 rfl rfl rfl rfl rfl rfl rfl rfl ?_
              rw [show rul (c j) p = (-1) by unfold rul; repeat (first | rw [if_pos (by omega)] | rw [if_neg (by omega)])] at k
              exact k
            · skip
              show pm_E _ _ _ 55 [(0, .ref (pl (60 + 2 * j))), (1, .int (iI p)), (2, .int (iI (atI (c j) (p + 1)))), (3, .int (iI (atI (c j) (p + 2))))] [] _ _ _ _
              refine pm_e_sim pm_a68_55 rfl ?_
              show pm_E _ _ _ 56 [(0, .ref (pl (60 + 2 * j))), (1, .int (iI p)), (2, .int (iI (atI (c j) (p + 1)))), (3, .int (iI (atI (c j) (p + 2))))] [.ref (pl (60 + 2 * j))] _ _ _ _
              refine pm_e_sim pm_a68_56 rfl ?_
              show pm_E _ _ _ 57 [(0, .ref (pl (60 + 2 * j))), (1, .int (iI p)), (2, .int (iI (atI (c j) (p + 1)))), (3, .int (iI (atI (c j) (p + 2))))] [.int (iI p), .ref (pl (60 + 2 * j))] _ _ _ _
              refine pm_e_sim pm_a68_57 rfl ?_
              refine pm_e_top (y := iI 3) (by decide +kernel) ?_
              show pm_E _ _ _ 58 [(0, .ref (pl (60 + 2 * j))), (1, .int (iI p)), (2, .int (iI (atI (c j) (p + 1)))), (3, .int (iI (atI (c j) (p + 2))))] [.int (iI 3), .int (iI p), .ref (pl (60 + 2 * j))] _ _ _ _
              refine pm_e_sim pm_a68_58 rfl ?_
              refine pm_e_top (y := iI (p + 3)) (iI_add _ _) ?_
              show pm_E _ _ _ 59 [(0, .ref (pl (60 + 2 * j))), (1, .int (iI p)), (2, .int (iI (atI (c j) (p + 1)))), (3, .int (iI (atI (c j) (p + 2))))] [.int (iI (p + 3)), .ref (pl (60 + 2 * j))] _ _ _ _
              refine pm_i_callv (k := (pl (60 + 2 * j))) (T2 := pm_mm47) pm_a68_59 rfl rfl rfl (cg_o hj) ⟨Nat.le_of_ble_eq_true rfl, Nat.le_of_ble_eq_true rfl, rfl, by decide +kernel⟩ ?_
              show pm_E none _ _ 0 [(0, .ref (pl (60 + 2 * j))), (1, .int (iI (p + 3)))] [] _ _ _ _
              refine C_at hW hj rfl hok.1 hok.2.1 ⟨by omega, by omega⟩ ?_
              obtain ⟨_, _⟩ := atI_in hok (p + 3)
              show pm_E _ _ _ 62 [(0, .ref (pl (60 + 2 * j))), (1, .int (iI p)), (2, .int (iI (atI (c j) (p + 1)))), (3, .int (iI (atI (c j) (p + 2))))] [.int (iI (atI (c j) (p + 3)))] _ _ _ _
              refine pm_e_sim pm_a68_62 rfl ?_
              refine pm_e_top (y := iI 2) (by decide +kernel) ?_
              show pm_E _ _ _ 63 [(0, .ref (pl (60 + 2 * j))), (1, .int (iI p)), (2, .int (iI (atI (c j) (p + 1)))), (3, .int (iI (atI (c j) (p + 2))))] [.int (iI 2), .int (iI (atI (c j) (p + 3)))] _ _ _ _
              refine pm_c_ne (t := 70) pm_a68_63 rfl ⟨by omega, by omega⟩ ⟨by omega, by omega⟩ (fun h_7 => ?_) (fun h_7 => ?_)
              · skip
                show pm_E _ _ _ 70 [(0, .ref (pl (60 + 2 * j))), (1, .int (iI p)), (2, .int (iI (atI (c j) (p + 1)))), (3, .int (iI (atI (c j) (p + 2))))] [] _ _ _ _
                refine pm_e_sim pm_a68_70 rfl ?_
                refine pm_e_top (y := iI (-1)) (by decide +kernel) ?_
                show pm_E _ _ _ 71 [(0, .ref (pl (60 + 2 * j))), (1, .int (iI p)), (2, .int (iI (atI (c j) (p + 1)))), (3, .int (iI (atI (c j) (p + 2))))] [.int (iI (-1))] _ _ _ _
                refine pm_e_ret pm_a68_71 rfl rfl rfl rfl rfl rfl rfl rfl ?_
                rw [show rul (c j) p = (-1) by unfold rul; repeat (first | rw [if_pos (by omega)] | rw [if_neg (by omega)])] at k
                exact k
              · skip
                show pm_E _ _ _ 66 [(0, .ref (pl (60 + 2 * j))), (1, .int (iI p)), (2, .int (iI (atI (c j) (p + 1)))), (3, .int (iI (atI (c j) (p + 2))))] [] _ _ _ _
                refine pm_e_sim pm_a68_66 rfl ?_
                refine pm_e_top (y := iI 2) (by decide +kernel) ?_
                show pm_E _ _ _ 67 [(0, .ref (pl (60 + 2 * j))), (1, .int (iI p)), (2, .int (iI (atI (c j) (p + 1)))), (3, .int (iI (atI (c j) (p + 2))))] [.int (iI 2)] _ _ _ _
                refine pm_e_goto pm_a68_67 rfl ?_
                show pm_E _ _ _ 71 [(0, .ref (pl (60 + 2 * j))), (1, .int (iI p)), (2, .int (iI (atI (c j) (p + 1)))), (3, .int (iI (atI (c j) (p + 2))))] [.int (iI 2)] _ _ _ _
                refine pm_e_ret pm_a68_71 rfl rfl rfl rfl rfl rfl rfl rfl ?_
                rw [show rul (c j) p = 2 by unfold rul; repeat (first | rw [if_pos (by omega)] | rw [if_neg (by omega)])] at k
                exact k
          · skip
            show pm_E _ _ _ 49 [(0, .ref (pl (60 + 2 * j))), (1, .int (iI p)), (2, .int (iI (atI (c j) (p + 1)))), (3, .int (iI (atI (c j) (p + 2))))] [] _ _ _ _
            refine pm_e_sim pm_a68_49 rfl ?_
            refine pm_e_top (y := iI 3) (by decide +kernel) ?_
            show pm_E _ _ _ 50 [(0, .ref (pl (60 + 2 * j))), (1, .int (iI p)), (2, .int (iI (atI (c j) (p + 1)))), (3, .int (iI (atI (c j) (p + 2))))] [.int (iI 3)] _ _ _ _
            refine pm_e_ret pm_a68_50 rfl rfl rfl rfl rfl rfl rfl rfl ?_
            rw [show rul (c j) p = 3 by unfold rul; repeat (first | rw [if_pos (by omega)] | rw [if_neg (by omega)])] at k
            exact k
        · skip
          show pm_E _ _ _ 34 [(0, .ref (pl (60 + 2 * j))), (1, .int (iI p)), (2, .int (iI (atI (c j) (p + 1))))] [] _ _ _ _
          refine pm_e_sim pm_a68_34 rfl ?_
          refine pm_e_top (y := iI (-1)) (by decide +kernel) ?_
          show pm_E _ _ _ 35 [(0, .ref (pl (60 + 2 * j))), (1, .int (iI p)), (2, .int (iI (atI (c j) (p + 1))))] [.int (iI (-1))] _ _ _ _
          refine pm_e_ret pm_a68_35 rfl rfl rfl rfl rfl rfl rfl rfl ?_
          rw [show rul (c j) p = (-1) by unfold rul; repeat (first | rw [if_pos (by omega)] | rw [if_neg (by omega)])] at k
          exact k
      · skip
        show pm_E _ _ _ 28 [(0, .ref (pl (60 + 2 * j))), (1, .int (iI p)), (2, .int (iI (atI (c j) (p + 1))))] [] _ _ _ _
        refine pm_e_sim pm_a68_28 rfl ?_
        show pm_E _ _ _ 29 [(0, .ref (pl (60 + 2 * j))), (1, .int (iI p)), (2, .int (iI (atI (c j) (p + 1))))] [.int (iI (atI (c j) (p + 1)))] _ _ _ _
        refine pm_e_ret pm_a68_29 rfl rfl rfl rfl rfl rfl rfl rfl ?_
        rw [show rul (c j) p = atI (c j) (p + 1) by unfold rul; repeat (first | rw [if_pos (by omega)] | rw [if_neg (by omega)]); omega] at k
        exact k
  · skip
    show pm_E _ _ _ 8 [(0, .ref (pl (60 + 2 * j))), (1, .int (iI p))] [] _ _ _ _
    refine pm_e_sim pm_a68_8 rfl ?_
    refine pm_e_top (y := iI (-1)) (by decide +kernel) ?_
    show pm_E _ _ _ 9 [(0, .ref (pl (60 + 2 * j))), (1, .int (iI p))] [.int (iI (-1))] _ _ _ _
    refine pm_e_ret pm_a68_9 rfl rfl rfl rfl rfl rfl rfl rfl ?_
    rw [show rul (c j) p = (-1) by unfold rul; repeat (first | rw [if_pos (by omega)] | rw [if_neg (by omega)])] at k
    exact k
set_option maxHeartbeats 4000000 in
set_option maxRecDepth 100000 in
theorem C_firstPlace_l {d n : Nat} {kd pl : Nat → Nat} {s : Nat → Int} {a : Nat → Int → Int} {c : Nat → cdt} {M : List va_E} {Q : Option Value → List va_E → Nat → Nat → Prop} {j : Nat} (hW : wf n kd pl) (hj : j < 38 ∧ al n kd pl (60 + 2 * j)) (hok : okx (rm j) (c j)) (k : ∀ r, fsx (fun p => rul (c j) p ≠ -1) (c j).1 r → Q (some (.int (iI r))) (ch n kd pl s a c M) 0 0) : ∀ (f : Nat) (i : Int), 0 ≤ i → i ≤ (c j).1 → (∀ q, 0 ≤ q → q < i → rul (c j) q = -1) → (c j).1 - i < (f : Int) → pm_E none (d + 2) pm_mm67 2 [(0, .ref (pl 15)), (1, .ref (pl (60 + 2 * j))), (2, .int (iI i))] [] (ch n kd pl s a c M) 0 0 Q := by
  intro f
  induction f with
  | zero =>
    intro i hi0 hi1 hi hf
    exfalso; omega
  | succ f ih =>
    intro i hi0 hi1 hi hf
    have rb := rm_b j
    obtain ⟨o1, o2, o3, o4⟩ := id hok
    refine pm_e_sim pm_a67_2 rfl ?_
    show pm_E _ _ _ 3 [(0, .ref (pl 15)), (1, .ref (pl (60 + 2 * j))), (2, .int (iI i))] [.int (iI i)] _ _ _ _
    refine pm_e_sim pm_a67_3 rfl ?_
    show pm_E _ _ _ 4 [(0, .ref (pl 15)), (1, .ref (pl (60 + 2 * j))), (2, .int (iI i))] [.ref (pl (60 + 2 * j)), .int (iI i)] _ _ _ _
    refine pm_i_get pm_a67_4 rfl (cg_o hj) rfl ?_
    show pm_E _ _ _ 7 [(0, .ref (pl 15)), (1, .ref (pl (60 + 2 * j))), (2, .int (iI i))] [.int (iI ((c j).1)), .int (iI i)] _ _ _ _
    refine pm_c_ge (t := 27) pm_a67_7 rfl ⟨by omega, by omega⟩ ⟨by omega, by omega⟩ (fun h_1 => ?_) (fun h_1 => ?_)
    · skip
      show pm_E _ _ _ 27 [(0, .ref (pl 15)), (1, .ref (pl (60 + 2 * j))), (2, .int (iI i))] [] _ _ _ _
      refine pm_e_sim pm_a67_27 rfl ?_
      refine pm_e_top (y := iI (-4)) (by decide +kernel) ?_
      show pm_E _ _ _ 29 [(0, .ref (pl 15)), (1, .ref (pl (60 + 2 * j))), (2, .int (iI i))] [.int (iI (-4))] _ _ _ _
      refine pm_e_ret pm_a67_29 rfl rfl rfl rfl rfl rfl rfl rfl ?_
      exact k (-4) (Or.inl ⟨rfl, fun q a b c => c (hi q a (by omega))⟩)
    · skip
      show pm_E _ _ _ 10 [(0, .ref (pl 15)), (1, .ref (pl (60 + 2 * j))), (2, .int (iI i))] [] _ _ _ _
      refine pm_e_sim pm_a67_10 rfl ?_
      show pm_E _ _ _ 11 [(0, .ref (pl 15)), (1, .ref (pl (60 + 2 * j))), (2, .int (iI i))] [.ref (pl (60 + 2 * j))] _ _ _ _
      refine pm_e_sim pm_a67_11 rfl ?_
      show pm_E _ _ _ 12 [(0, .ref (pl 15)), (1, .ref (pl (60 + 2 * j))), (2, .int (iI i))] [.int (iI i), .ref (pl (60 + 2 * j))] _ _ _ _
      refine pm_e_call (T2 := pm_mm68) pm_a67_12 rfl rfl rfl rfl rfl rfl rfl rfl rfl ?_
      show pm_E none _ _ 0 [(0, .ref (pl (60 + 2 * j))), (1, .int (iI i))] [] _ _ _ _
      refine C_ruleAt hW hj rfl hok ⟨by omega, by omega⟩ ?_
      have rin := rul_in (c j) (i)
      show pm_E _ _ _ 15 [(0, .ref (pl 15)), (1, .ref (pl (60 + 2 * j))), (2, .int (iI i))] [.int (iI (rul (c j) i))] _ _ _ _
      refine pm_e_sim pm_a67_15 rfl ?_
      refine pm_e_top (y := iI (-1)) (by decide +kernel) ?_
      show pm_E _ _ _ 16 [(0, .ref (pl 15)), (1, .ref (pl (60 + 2 * j))), (2, .int (iI i))] [.int (iI (-1)), .int (iI (rul (c j) i))] _ _ _ _
      refine pm_c_eq (t := 21) pm_a67_16 rfl ⟨by omega, by omega⟩ ⟨by omega, by omega⟩ (fun h_2 => ?_) (fun h_2 => ?_)
      · skip
        show pm_E _ _ _ 21 [(0, .ref (pl 15)), (1, .ref (pl (60 + 2 * j))), (2, .int (iI i))] [] _ _ _ _
        refine pm_e_inc (y := iI (i + 1)) pm_a67_21 rfl (iI_add _ _) (by decide +kernel) rfl ?_
        show pm_E _ _ _ 24 [(0, .ref (pl 15)), (1, .ref (pl (60 + 2 * j))), (2, .int (iI (i + 1)))] [] _ _ _ _
        refine pm_e_goto pm_a67_24 rfl ?_
        show pm_E _ _ _ 2 [(0, .ref (pl 15)), (1, .ref (pl (60 + 2 * j))), (2, .int (iI (i + 1)))] [] _ _ _ _
        refine ih _ (by omega) (by omega) (fun q a b => ?_) (by omega)
        by_cases hq : q = i
        · rw [hq]; omega
        · exact hi q a (by omega)
      · skip
        show pm_E _ _ _ 19 [(0, .ref (pl 15)), (1, .ref (pl (60 + 2 * j))), (2, .int (iI i))] [] _ _ _ _
        refine pm_e_sim pm_a67_19 rfl ?_
        show pm_E _ _ _ 20 [(0, .ref (pl 15)), (1, .ref (pl (60 + 2 * j))), (2, .int (iI i))] [.int (iI i)] _ _ _ _
        refine pm_e_ret pm_a67_20 rfl rfl rfl rfl rfl rfl rfl rfl ?_
        exact k i (Or.inr ⟨by omega, by omega, by omega, fun q a b c => c (hi q a b)⟩)
set_option maxHeartbeats 4000000 in
set_option maxRecDepth 100000 in
theorem C_firstPlace {d n : Nat} {kd pl : Nat → Nat} {s : Nat → Int} {a : Nat → Int → Int} {c : Nat → cdt} {M : List va_E} {Q : Option Value → List va_E → Nat → Nat → Prop} {j : Nat} {y : cdt} (hW : wf n kd pl) (hj : j < 38 ∧ al n kd pl (60 + 2 * j)) (hy : c j = y) (hok : okx (rm j) y) (k : ∀ r, fsx (fun p => rul y p ≠ -1) y.1 r → Q (some (.int (iI r))) (ch n kd pl s a c M) 0 0) : pm_E none (d + 2) pm_mm67 0 [(0, .ref (pl 15)), (1, .ref (pl (60 + 2 * j)))] [] (ch n kd pl s a c M) 0 0 Q := by
  subst hy
  have rb := rm_b j
  obtain ⟨o1, o2, o3, o4⟩ := id hok
  refine pm_e_sim pm_a67_0 rfl ?_
  refine pm_e_top (y := iI 0) (by decide +kernel) ?_
  show pm_E _ _ _ 1 [(0, .ref (pl 15)), (1, .ref (pl (60 + 2 * j)))] [.int (iI 0)] _ _ _ _
  refine pm_e_sim pm_a67_1 rfl ?_
  show pm_E _ _ _ 2 [(0, .ref (pl 15)), (1, .ref (pl (60 + 2 * j))), (2, .int (iI 0))] [] _ _ _ _
  refine C_firstPlace_l hW hj hok k ((c j).1.toNat + 1) 0 (by omega) (by omega) (fun q a b => by omega) (by omega)
set_option maxHeartbeats 4000000 in
set_option maxRecDepth 100000 in
theorem C_headPlace_l {d n : Nat} {kd pl : Nat → Nat} {s : Nat → Int} {a : Nat → Int → Int} {c : Nat → cdt} {M : List va_E} {Q : Option Value → List va_E → Nat → Nat → Prop} {j : Nat} (hW : wf n kd pl) (hj : j < 38 ∧ al n kd pl (60 + 2 * j)) (hok : okx (rm j) (c j)) (k : ∀ r, fsx (fun p => rul (c j) p ≠ -1 ∧ ∀ q, 0 ≤ q → q ≤ p → atI (c j) q = 0) (c j).1 r → Q (some (.int (iI r))) (ch n kd pl s a c M) 0 0) : ∀ (f : Nat) (i : Int), 0 ≤ i → i ≤ (c j).1 → (∀ q, 0 ≤ q → q < i → rul (c j) q = -1 ∧ atI (c j) q = 0) → (c j).1 - i < (f : Int) → pm_E none (d + 2) pm_mm76 2 [(0, .ref (pl 15)), (1, .ref (pl (60 + 2 * j))), (2, .int (iI i))] [] (ch n kd pl s a c M) 0 0 Q := by
  intro f
  induction f with
  | zero =>
    intro i hi0 hi1 hi hf
    exfalso; omega
  | succ f ih =>
    intro i hi0 hi1 hi hf
    have rb := rm_b j
    obtain ⟨o1, o2, o3, o4⟩ := id hok
    refine pm_e_sim pm_a76_2 rfl ?_
    show pm_E _ _ _ 3 [(0, .ref (pl 15)), (1, .ref (pl (60 + 2 * j))), (2, .int (iI i))] [.int (iI i)] _ _ _ _
    refine pm_e_sim pm_a76_3 rfl ?_
    show pm_E _ _ _ 4 [(0, .ref (pl 15)), (1, .ref (pl (60 + 2 * j))), (2, .int (iI i))] [.ref (pl (60 + 2 * j)), .int (iI i)] _ _ _ _
    refine pm_i_get pm_a76_4 rfl (cg_o hj) rfl ?_
    show pm_E _ _ _ 7 [(0, .ref (pl 15)), (1, .ref (pl (60 + 2 * j))), (2, .int (iI i))] [.int (iI ((c j).1)), .int (iI i)] _ _ _ _
    refine pm_c_ge (t := 35) pm_a76_7 rfl ⟨by omega, by omega⟩ ⟨by omega, by omega⟩ (fun h_1 => ?_) (fun h_1 => ?_)
    · skip
      show pm_E _ _ _ 35 [(0, .ref (pl 15)), (1, .ref (pl (60 + 2 * j))), (2, .int (iI i))] [] _ _ _ _
      refine pm_e_sim pm_a76_35 rfl ?_
      refine pm_e_top (y := iI (-4)) (by decide +kernel) ?_
      show pm_E _ _ _ 37 [(0, .ref (pl 15)), (1, .ref (pl (60 + 2 * j))), (2, .int (iI i))] [.int (iI (-4))] _ _ _ _
      refine pm_e_ret pm_a76_37 rfl rfl rfl rfl rfl rfl rfl rfl ?_
      refine k (-4) (Or.inl ⟨rfl, fun q a b c => ?_⟩)
      by_cases hq : q < i
      · exact c.1 (hi q a hq).1
      · have := c.2 i (by omega) (by omega); omega
    · skip
      show pm_E _ _ _ 10 [(0, .ref (pl 15)), (1, .ref (pl (60 + 2 * j))), (2, .int (iI i))] [] _ _ _ _
      refine pm_e_sim pm_a76_10 rfl ?_
      show pm_E _ _ _ 11 [(0, .ref (pl 15)), (1, .ref (pl (60 + 2 * j))), (2, .int (iI i))] [.ref (pl (60 + 2 * j))] _ _ _ _
      refine pm_e_sim pm_a76_11 rfl ?_
      show pm_E _ _ _ 12 [(0, .ref (pl 15)), (1, .ref (pl (60 + 2 * j))), (2, .int (iI i))] [.int (iI i), .ref (pl (60 + 2 * j))] _ _ _ _
      refine pm_i_callv (k := (pl (60 + 2 * j))) (T2 := pm_mm47) pm_a76_12 rfl rfl rfl (cg_o hj) ⟨Nat.le_of_ble_eq_true rfl, Nat.le_of_ble_eq_true rfl, rfl, by decide +kernel⟩ ?_
      show pm_E none _ _ 0 [(0, .ref (pl (60 + 2 * j))), (1, .int (iI i))] [] _ _ _ _
      refine C_at hW hj rfl hok.1 hok.2.1 ⟨by omega, by omega⟩ ?_
      obtain ⟨_, _⟩ := atI_in hok (i)
      show pm_E _ _ _ 15 [(0, .ref (pl 15)), (1, .ref (pl (60 + 2 * j))), (2, .int (iI i))] [.int (iI (atI (c j) i))] _ _ _ _
      refine pm_i_ne (t := 35) pm_a76_15 rfl ⟨by omega, by omega⟩ (fun h_2 => ?_) (fun h_2 => ?_)
      · skip
        show pm_E _ _ _ 35 [(0, .ref (pl 15)), (1, .ref (pl (60 + 2 * j))), (2, .int (iI i))] [] _ _ _ _
        refine pm_e_sim pm_a76_35 rfl ?_
        refine pm_e_top (y := iI (-4)) (by decide +kernel) ?_
        show pm_E _ _ _ 37 [(0, .ref (pl 15)), (1, .ref (pl (60 + 2 * j))), (2, .int (iI i))] [.int (iI (-4))] _ _ _ _
        refine pm_e_ret pm_a76_37 rfl rfl rfl rfl rfl rfl rfl rfl ?_
        refine k (-4) (Or.inl ⟨rfl, fun q a b c => ?_⟩)
        by_cases hq : q < i
        · exact c.1 (hi q a hq).1
        · have := c.2 i (by omega) (by omega); omega
      · skip
        show pm_E _ _ _ 18 [(0, .ref (pl 15)), (1, .ref (pl (60 + 2 * j))), (2, .int (iI i))] [] _ _ _ _
        refine pm_e_sim pm_a76_18 rfl ?_
        show pm_E _ _ _ 19 [(0, .ref (pl 15)), (1, .ref (pl (60 + 2 * j))), (2, .int (iI i))] [.ref (pl (60 + 2 * j))] _ _ _ _
        refine pm_e_sim pm_a76_19 rfl ?_
        show pm_E _ _ _ 20 [(0, .ref (pl 15)), (1, .ref (pl (60 + 2 * j))), (2, .int (iI i))] [.int (iI i), .ref (pl (60 + 2 * j))] _ _ _ _
        refine pm_e_call (T2 := pm_mm68) pm_a76_20 rfl rfl rfl rfl rfl rfl rfl rfl rfl ?_
        show pm_E none _ _ 0 [(0, .ref (pl (60 + 2 * j))), (1, .int (iI i))] [] _ _ _ _
        refine C_ruleAt hW hj rfl hok ⟨by omega, by omega⟩ ?_
        have rin := rul_in (c j) (i)
        show pm_E _ _ _ 23 [(0, .ref (pl 15)), (1, .ref (pl (60 + 2 * j))), (2, .int (iI i))] [.int (iI (rul (c j) i))] _ _ _ _
        refine pm_e_sim pm_a76_23 rfl ?_
        refine pm_e_top (y := iI (-1)) (by decide +kernel) ?_
        show pm_E _ _ _ 24 [(0, .ref (pl 15)), (1, .ref (pl (60 + 2 * j))), (2, .int (iI i))] [.int (iI (-1)), .int (iI (rul (c j) i))] _ _ _ _
        refine pm_c_eq (t := 29) pm_a76_24 rfl ⟨by omega, by omega⟩ ⟨by omega, by omega⟩ (fun h_3 => ?_) (fun h_3 => ?_)
        · skip
          show pm_E _ _ _ 29 [(0, .ref (pl 15)), (1, .ref (pl (60 + 2 * j))), (2, .int (iI i))] [] _ _ _ _
          refine pm_e_inc (y := iI (i + 1)) pm_a76_29 rfl (iI_add _ _) (by decide +kernel) rfl ?_
          show pm_E _ _ _ 32 [(0, .ref (pl 15)), (1, .ref (pl (60 + 2 * j))), (2, .int (iI (i + 1)))] [] _ _ _ _
          refine pm_e_goto pm_a76_32 rfl ?_
          show pm_E _ _ _ 2 [(0, .ref (pl 15)), (1, .ref (pl (60 + 2 * j))), (2, .int (iI (i + 1)))] [] _ _ _ _
          refine ih _ (by omega) (by omega) (fun q a b => ?_) (by omega)
          by_cases hq : q = i
          · rw [hq]; exact ⟨by omega, by omega⟩
          · exact hi q a (by omega)
        · skip
          show pm_E _ _ _ 27 [(0, .ref (pl 15)), (1, .ref (pl (60 + 2 * j))), (2, .int (iI i))] [] _ _ _ _
          refine pm_e_sim pm_a76_27 rfl ?_
          show pm_E _ _ _ 28 [(0, .ref (pl 15)), (1, .ref (pl (60 + 2 * j))), (2, .int (iI i))] [.int (iI i)] _ _ _ _
          refine pm_e_ret pm_a76_28 rfl rfl rfl rfl rfl rfl rfl rfl ?_
          refine k i (Or.inr ⟨by omega, by omega, ⟨by omega, fun q a b => ?_⟩, fun q a b c => c.1 (hi q a b).1⟩)
          by_cases hq : q = i
          · rw [hq]; omega
          · exact (hi q a (by omega)).2
set_option maxHeartbeats 4000000 in
set_option maxRecDepth 100000 in
theorem C_headPlace {d n : Nat} {kd pl : Nat → Nat} {s : Nat → Int} {a : Nat → Int → Int} {c : Nat → cdt} {M : List va_E} {Q : Option Value → List va_E → Nat → Nat → Prop} {j : Nat} {y : cdt} (hW : wf n kd pl) (hj : j < 38 ∧ al n kd pl (60 + 2 * j)) (hy : c j = y) (hok : okx (rm j) y) (k : ∀ r, fsx (fun p => rul y p ≠ -1 ∧ ∀ q, 0 ≤ q → q ≤ p → atI y q = 0) y.1 r → Q (some (.int (iI r))) (ch n kd pl s a c M) 0 0) : pm_E none (d + 2) pm_mm76 0 [(0, .ref (pl 15)), (1, .ref (pl (60 + 2 * j)))] [] (ch n kd pl s a c M) 0 0 Q := by
  subst hy
  have rb := rm_b j
  obtain ⟨o1, o2, o3, o4⟩ := id hok
  refine pm_e_sim pm_a76_0 rfl ?_
  refine pm_e_top (y := iI 0) (by decide +kernel) ?_
  show pm_E _ _ _ 1 [(0, .ref (pl 15)), (1, .ref (pl (60 + 2 * j)))] [.int (iI 0)] _ _ _ _
  refine pm_e_sim pm_a76_1 rfl ?_
  show pm_E _ _ _ 2 [(0, .ref (pl 15)), (1, .ref (pl (60 + 2 * j))), (2, .int (iI 0))] [] _ _ _ _
  refine C_headPlace_l hW hj hok k ((c j).1.toNat + 1) 0 (by omega) (by omega) (fun q a b => by omega) (by omega)
set_option maxHeartbeats 4000000 in
set_option maxRecDepth 100000 in
theorem C_innerPlace_l {d n : Nat} {kd pl : Nat → Nat} {s : Nat → Int} {a : Nat → Int → Int} {c : Nat → cdt} {M : List va_E} {Q : Option Value → List va_E → Nat → Nat → Prop} {j : Nat} {E : Int → Int} (hW : wf n kd pl) (hj : j < 38 ∧ al n kd pl (60 + 2 * j)) (hok : okx (rm j) (c j)) (hE : a 1 = E) (he : ∀ p, 0 ≤ p → p < (c j).1 → 0 ≤ E p ∧ E p ≤ (c j).1) (k : ∀ r, fsx (fun p => rul (c j) p ≠ -1 ∧ ∀ q, p < q → q < E p → rul (c j) q = -1) (c j).1 r → Q (some (.int (iI r))) (ch n kd pl s a c M) 0 0) : ∀ (f : Nat) (l i : Int), 0 ≤ i → i ≤ (c j).1 → ((l = -4 ∧ ∀ q, 0 ≤ q → q < i → rul (c j) q = -1) ∨ (0 ≤ l ∧ l < i ∧ rul (c j) l ≠ -1 ∧ (∀ q, l < q → q < i → rul (c j) q = -1) ∧ ∀ q, 0 ≤ q → q < l → ¬ (rul (c j) q ≠ -1 ∧ ∀ x, q < x → x < E q → rul (c j) x = -1))) → (c j).1 - i < (f : Int) → pm_E none (d + 2) pm_mm69 18 [(0, .ref (pl 15)), (1, .ref (pl (60 + 2 * j))), (2, .int (iI l)), (3, .int (iI i))] [] (ch n kd pl s a c M) 0 0 Q := by
  intro f
  induction f with
  | zero =>
    intro l i hi0 hi1 hl hf
    exfalso; omega
  | succ f ih =>
    intro l i hi0 hi1 hl hf
    have rb := rm_b j
    obtain ⟨o1, o2, o3, o4⟩ := id hok
    have hl9 : -4 ≤ l ∧ l < i := by rcases hl with ⟨l1, _⟩ | ⟨l1, l2, _⟩ <;> omega
    refine pm_e_sim pm_a69_18 rfl ?_
    show pm_E _ _ _ 19 [(0, .ref (pl 15)), (1, .ref (pl (60 + 2 * j))), (2, .int (iI l)), (3, .int (iI i))] [.int (iI i)] _ _ _ _
    refine pm_e_sim pm_a69_19 rfl ?_
    show pm_E _ _ _ 20 [(0, .ref (pl 15)), (1, .ref (pl (60 + 2 * j))), (2, .int (iI l)), (3, .int (iI i))] [.ref (pl (60 + 2 * j)), .int (iI i)] _ _ _ _
    refine pm_i_get pm_a69_20 rfl (cg_o hj) rfl ?_
    show pm_E _ _ _ 23 [(0, .ref (pl 15)), (1, .ref (pl (60 + 2 * j))), (2, .int (iI l)), (3, .int (iI i))] [.int (iI ((c j).1)), .int (iI i)] _ _ _ _
    refine pm_c_ge (t := 61) pm_a69_23 rfl ⟨by omega, by omega⟩ ⟨by omega, by omega⟩ (fun h_1 => ?_) (fun h_1 => ?_)
    · skip
      show pm_E _ _ _ 61 [(0, .ref (pl 15)), (1, .ref (pl (60 + 2 * j))), (2, .int (iI l)), (3, .int (iI i))] [] _ _ _ _
      refine pm_e_sim pm_a69_61 rfl ?_
      show pm_E _ _ _ 62 [(0, .ref (pl 15)), (1, .ref (pl (60 + 2 * j))), (2, .int (iI l)), (3, .int (iI i))] [.int (iI l)] _ _ _ _
      refine pm_e_ret pm_a69_62 rfl rfl rfl rfl rfl rfl rfl rfl ?_
      refine k l ?_
      rcases hl with ⟨l1, l2⟩ | ⟨l1, l2, l3, l4, l5⟩
      · exact Or.inl ⟨l1, fun q a b c => c.1 (l2 q a (by omega))⟩
      · have hel := he l (by omega) (by omega)
        exact Or.inr ⟨l1, by omega, ⟨l3, fun q a b => l4 q a (by omega)⟩, l5⟩
    · skip
      show pm_E _ _ _ 26 [(0, .ref (pl 15)), (1, .ref (pl (60 + 2 * j))), (2, .int (iI l)), (3, .int (iI i))] [] _ _ _ _
      refine pm_e_sim pm_a69_26 rfl ?_
      show pm_E _ _ _ 27 [(0, .ref (pl 15)), (1, .ref (pl (60 + 2 * j))), (2, .int (iI l)), (3, .int (iI i))] [.ref (pl (60 + 2 * j))] _ _ _ _
      refine pm_e_sim pm_a69_27 rfl ?_
      show pm_E _ _ _ 28 [(0, .ref (pl 15)), (1, .ref (pl (60 + 2 * j))), (2, .int (iI l)), (3, .int (iI i))] [.int (iI i), .ref (pl (60 + 2 * j))] _ _ _ _
      refine pm_e_call (T2 := pm_mm68) pm_a69_28 rfl rfl rfl rfl rfl rfl rfl rfl rfl ?_
      show pm_E none _ _ 0 [(0, .ref (pl (60 + 2 * j))), (1, .int (iI i))] [] _ _ _ _
      refine C_ruleAt hW hj rfl hok ⟨by omega, by omega⟩ ?_
      have rin := rul_in (c j) (i)
      show pm_E _ _ _ 31 [(0, .ref (pl 15)), (1, .ref (pl (60 + 2 * j))), (2, .int (iI l)), (3, .int (iI i))] [.int (iI (rul (c j) i))] _ _ _ _
      refine pm_e_sim pm_a69_31 rfl ?_
      refine pm_e_top (y := iI (-1)) (by decide +kernel) ?_
      show pm_E _ _ _ 32 [(0, .ref (pl 15)), (1, .ref (pl (60 + 2 * j))), (2, .int (iI l)), (3, .int (iI i))] [.int (iI (-1)), .int (iI (rul (c j) i))] _ _ _ _
      refine pm_c_eq (t := 55) pm_a69_32 rfl ⟨by omega, by omega⟩ ⟨by omega, by omega⟩ (fun h_2 => ?_) (fun h_2 => ?_)
      · skip
        show pm_E _ _ _ 55 [(0, .ref (pl 15)), (1, .ref (pl (60 + 2 * j))), (2, .int (iI l)), (3, .int (iI i))] [] _ _ _ _
        refine pm_e_inc (y := iI (i + 1)) pm_a69_55 rfl (iI_add _ _) (by decide +kernel) rfl ?_
        show pm_E _ _ _ 58 [(0, .ref (pl 15)), (1, .ref (pl (60 + 2 * j))), (2, .int (iI l)), (3, .int (iI (i + 1)))] [] _ _ _ _
        refine pm_e_goto pm_a69_58 rfl ?_
        show pm_E _ _ _ 18 [(0, .ref (pl 15)), (1, .ref (pl (60 + 2 * j))), (2, .int (iI l)), (3, .int (iI (i + 1)))] [] _ _ _ _
        refine ih _ _ (by omega) (by omega) ?_ (by omega)
        rcases hl with ⟨l1, l2⟩ | ⟨l1, l2, l3, l4, l5⟩
        · refine Or.inl ⟨l1, fun q a b => ?_⟩
          by_cases hq : q = i
          · rw [hq]; omega
          · exact l2 q a (by omega)
        · refine Or.inr ⟨l1, by omega, l3, fun q a b => ?_, l5⟩
          by_cases hq : q = i
          · rw [hq]; omega
          · exact l4 q a (by omega)
      · skip
        show pm_E _ _ _ 35 [(0, .ref (pl 15)), (1, .ref (pl (60 + 2 * j))), (2, .int (iI l)), (3, .int (iI i))] [] _ _ _ _
        refine pm_e_sim pm_a69_35 rfl ?_
        show pm_E _ _ _ 36 [(0, .ref (pl 15)), (1, .ref (pl (60 + 2 * j))), (2, .int (iI l)), (3, .int (iI i))] [.int (iI l)] _ _ _ _
        refine pm_i_lt (t := 53) pm_a69_36 rfl ⟨by omega, by omega⟩ (fun h_3 => ?_) (fun h_3 => ?_)
        · skip
          show pm_E _ _ _ 53 [(0, .ref (pl 15)), (1, .ref (pl (60 + 2 * j))), (2, .int (iI l)), (3, .int (iI i))] [] _ _ _ _
          refine pm_e_sim pm_a69_53 rfl ?_
          show pm_E _ _ _ 54 [(0, .ref (pl 15)), (1, .ref (pl (60 + 2 * j))), (2, .int (iI l)), (3, .int (iI i))] [.int (iI i)] _ _ _ _
          refine pm_e_sim pm_a69_54 rfl ?_
          show pm_E _ _ _ 55 [(0, .ref (pl 15)), (1, .ref (pl (60 + 2 * j))), (2, .int (iI i)), (3, .int (iI i))] [] _ _ _ _
          refine pm_e_inc (y := iI (i + 1)) pm_a69_55 rfl (iI_add _ _) (by decide +kernel) rfl ?_
          show pm_E _ _ _ 58 [(0, .ref (pl 15)), (1, .ref (pl (60 + 2 * j))), (2, .int (iI i)), (3, .int (iI (i + 1)))] [] _ _ _ _
          refine pm_e_goto pm_a69_58 rfl ?_
          show pm_E _ _ _ 18 [(0, .ref (pl 15)), (1, .ref (pl (60 + 2 * j))), (2, .int (iI i)), (3, .int (iI (i + 1)))] [] _ _ _ _
          refine ih _ _ (by omega) (by omega) ?_ (by omega)
          refine Or.inr ⟨by omega, by omega, by omega, fun q a b => by omega, fun q a b c => ?_⟩
          rcases hl with ⟨l1, l2⟩ | ⟨l1, l2, l3, l4, l5⟩
          · exact c.1 (l2 q a b)
          · rcases Int.lt_trichotomy q l with h | h | h
            · exact l5 q a h c
            · subst h; have := c.2 i (by omega) (by omega); omega
            · exact c.1 (l4 q h b)
        · skip
          show pm_E _ _ _ 39 [(0, .ref (pl 15)), (1, .ref (pl (60 + 2 * j))), (2, .int (iI l)), (3, .int (iI i))] [] _ _ _ _
          refine pm_e_sim pm_a69_39 rfl ?_
          show pm_E _ _ _ 40 [(0, .ref (pl 15)), (1, .ref (pl (60 + 2 * j))), (2, .int (iI l)), (3, .int (iI i))] [.int (iI i)] _ _ _ _
          refine pm_e_sim pm_a69_40 rfl ?_
          show pm_E _ _ _ 41 [(0, .ref (pl 15)), (1, .ref (pl (60 + 2 * j))), (2, .int (iI l)), (3, .int (iI i))] [.ref (pl 15), .int (iI i)] _ _ _ _
          refine pm_i_get pm_a69_41 rfl (cg_15 hW) rfl ?_
          show pm_E _ _ _ 44 [(0, .ref (pl 15)), (1, .ref (pl (60 + 2 * j))), (2, .int (iI l)), (3, .int (iI i))] [.ref (pl 6), .int (iI i)] _ _ _ _
          refine pm_e_sim pm_a69_44 rfl ?_
          show pm_E _ _ _ 45 [(0, .ref (pl 15)), (1, .ref (pl (60 + 2 * j))), (2, .int (iI l)), (3, .int (iI i))] [.int (iI l), .ref (pl 6), .int (iI i)] _ _ _ _
          refine pm_i_callv (k := (pl 6)) (T2 := pm_mm72) pm_a69_45 rfl rfl rfl (cg_6 hW) ⟨Nat.le_of_ble_eq_true rfl, Nat.le_of_ble_eq_true rfl, rfl, by decide +kernel⟩ ?_
          show pm_E none _ _ 0 [(0, .ref (pl 6)), (1, .int (iI l))] [] _ _ _ _
          refine C_endOf hW ⟨by omega, by omega⟩ ?_
          rw [shE_y (by omega) (by omega), hE]
          have hel := he l (by omega) (by omega)
          show pm_E _ _ _ 48 [(0, .ref (pl 15)), (1, .ref (pl (60 + 2 * j))), (2, .int (iI l)), (3, .int (iI i))] [.int (iI (E l)), .int (iI i)] _ _ _ _
          refine pm_c_lt (t := 53) pm_a69_48 rfl ⟨by omega, by omega⟩ ⟨by omega, by omega⟩ (fun h_4 => ?_) (fun h_4 => ?_)
          · skip
            show pm_E _ _ _ 53 [(0, .ref (pl 15)), (1, .ref (pl (60 + 2 * j))), (2, .int (iI l)), (3, .int (iI i))] [] _ _ _ _
            refine pm_e_sim pm_a69_53 rfl ?_
            show pm_E _ _ _ 54 [(0, .ref (pl 15)), (1, .ref (pl (60 + 2 * j))), (2, .int (iI l)), (3, .int (iI i))] [.int (iI i)] _ _ _ _
            refine pm_e_sim pm_a69_54 rfl ?_
            show pm_E _ _ _ 55 [(0, .ref (pl 15)), (1, .ref (pl (60 + 2 * j))), (2, .int (iI i)), (3, .int (iI i))] [] _ _ _ _
            refine pm_e_inc (y := iI (i + 1)) pm_a69_55 rfl (iI_add _ _) (by decide +kernel) rfl ?_
            show pm_E _ _ _ 58 [(0, .ref (pl 15)), (1, .ref (pl (60 + 2 * j))), (2, .int (iI i)), (3, .int (iI (i + 1)))] [] _ _ _ _
            refine pm_e_goto pm_a69_58 rfl ?_
            show pm_E _ _ _ 18 [(0, .ref (pl 15)), (1, .ref (pl (60 + 2 * j))), (2, .int (iI i)), (3, .int (iI (i + 1)))] [] _ _ _ _
            refine ih _ _ (by omega) (by omega) ?_ (by omega)
            refine Or.inr ⟨by omega, by omega, by omega, fun q a b => by omega, fun q a b c => ?_⟩
            rcases hl with ⟨l1, l2⟩ | ⟨l1, l2, l3, l4, l5⟩
            · exact c.1 (l2 q a b)
            · rcases Int.lt_trichotomy q l with h | h | h
              · exact l5 q a h c
              · subst h; have := c.2 i (by omega) (by omega); omega
              · exact c.1 (l4 q h b)
          · skip
            show pm_E _ _ _ 51 [(0, .ref (pl 15)), (1, .ref (pl (60 + 2 * j))), (2, .int (iI l)), (3, .int (iI i))] [] _ _ _ _
            refine pm_e_sim pm_a69_51 rfl ?_
            show pm_E _ _ _ 52 [(0, .ref (pl 15)), (1, .ref (pl (60 + 2 * j))), (2, .int (iI l)), (3, .int (iI i))] [.int (iI l)] _ _ _ _
            refine pm_e_ret pm_a69_52 rfl rfl rfl rfl rfl rfl rfl rfl ?_
            refine k l ?_
            rcases hl with ⟨l1, l2⟩ | ⟨l1, l2, l3, l4, l5⟩
            · exact Or.inl ⟨l1, fun q a b c => c.1 (l2 q a (by omega))⟩
            · have hel := he l (by omega) (by omega)
              exact Or.inr ⟨l1, by omega, ⟨l3, fun q a b => l4 q a (by omega)⟩, l5⟩
theorem en_le {g E : Int → Int} {f : Nat} {k p e : Int} (t : tm g f k p e) (h : en g E p e) : ∀ q, p ≤ q → q < e → q < E q ∧ E q ≤ e := by
  intro q a b
  obtain ⟨f1, k1, t1⟩ := h q a b
  obtain ⟨f2, k2, e2, t2, h2, _⟩ := tm_sub t q a b
  have := tm_one t1 t2
  have := tm_lt t1
  omega
set_option maxHeartbeats 4000000 in
set_option maxRecDepth 100000 in
theorem C_innerPlace {d n : Nat} {kd pl : Nat → Nat} {s : Nat → Int} {a : Nat → Int → Int} {c : Nat → cdt} {M : List va_E} {Q : Option Value → List va_E → Nat → Nat → Prop} {j : Nat} {y : cdt} {ft : Nat} {k0 : Int} (hW : wf n kd pl) (hj : j < 38 ∧ al n kd pl (60 + 2 * j)) (hy : c j = y) (hok : okx (rm j) y) (hin : ∀ q, in32 (a 1 q)) (ht : tm y.2.2 ft k0 0 y.1) (k : ∀ E D r, en y.2.2 E 0 y.1 → (∀ r, in32 (E r)) → fsx (fun p => rul y p ≠ -1 ∧ ∀ q, p < q → q < E p → rul y q = -1) y.1 r → Q (some (.int (iI r))) (ch n kd pl s (updA (updA a 1 E) 2 D) c M) 0 0) : pm_E none (d + 3) pm_mm69 0 [(0, .ref (pl 15)), (1, .ref (pl (60 + 2 * j)))] [] (ch n kd pl s a c M) 0 0 Q := by
  subst hy
  have rb := rm_b j
  obtain ⟨o1, o2, o3, o4⟩ := id hok
  refine pm_e_sim pm_a69_0 rfl ?_
  show pm_E _ _ _ 1 [(0, .ref (pl 15)), (1, .ref (pl (60 + 2 * j)))] [.ref (pl 15)] _ _ _ _
  refine pm_i_get pm_a69_1 rfl (cg_15 hW) rfl ?_
  show pm_E _ _ _ 4 [(0, .ref (pl 15)), (1, .ref (pl (60 + 2 * j)))] [.ref (pl 6)] _ _ _ _
  refine pm_e_sim pm_a69_4 rfl ?_
  show pm_E _ _ _ 5 [(0, .ref (pl 15)), (1, .ref (pl (60 + 2 * j)))] [.ref (pl (60 + 2 * j)), .ref (pl 6)] _ _ _ _
  refine pm_e_sim pm_a69_5 rfl ?_
  refine pm_e_top (y := iI 0) (by decide +kernel) ?_
  show pm_E _ _ _ 6 [(0, .ref (pl 15)), (1, .ref (pl (60 + 2 * j)))] [.int (iI 0), .ref (pl (60 + 2 * j)), .ref (pl 6)] _ _ _ _
  refine pm_e_sim pm_a69_6 rfl ?_
  show pm_E _ _ _ 7 [(0, .ref (pl 15)), (1, .ref (pl (60 + 2 * j)))] [.ref (pl (60 + 2 * j)), .int (iI 0), .ref (pl (60 + 2 * j)), .ref (pl 6)] _ _ _ _
  refine pm_i_get pm_a69_7 rfl (cg_o hj) rfl ?_
  show pm_E _ _ _ 10 [(0, .ref (pl 15)), (1, .ref (pl (60 + 2 * j)))] [.int (iI ((c j).1)), .int (iI 0), .ref (pl (60 + 2 * j)), .ref (pl 6)] _ _ _ _
  refine pm_i_callv (k := (pl 6)) (T2 := pm_mm70) pm_a69_10 rfl rfl rfl (cg_6 hW) ⟨Nat.le_of_ble_eq_true rfl, Nat.le_of_ble_eq_true rfl, rfl, by decide +kernel⟩ ?_
  show pm_E none _ _ 0 [(0, .ref (pl 6)), (1, .ref (pl (60 + 2 * j))), (2, .int (iI 0)), (3, .int (iI ((c j).1)))] [] _ _ _ _
  refine C_measure hW hj rfl hok hin (by omega) (by omega) ht (fun E D h1 h2 h3 => ?_)
  show pm_E _ _ _ 13 [(0, .ref (pl 15)), (1, .ref (pl (60 + 2 * j)))] [] _ _ _ _
  refine pm_e_sim pm_a69_13 rfl ?_
  refine pm_e_top (y := iI (-4)) (by decide +kernel) ?_
  show pm_E _ _ _ 15 [(0, .ref (pl 15)), (1, .ref (pl (60 + 2 * j)))] [.int (iI (-4))] _ _ _ _
  refine pm_e_sim pm_a69_15 rfl ?_
  show pm_E _ _ _ 16 [(0, .ref (pl 15)), (1, .ref (pl (60 + 2 * j))), (2, .int (iI (-4)))] [] _ _ _ _
  refine pm_e_sim pm_a69_16 rfl ?_
  refine pm_e_top (y := iI 0) (by decide +kernel) ?_
  show pm_E _ _ _ 17 [(0, .ref (pl 15)), (1, .ref (pl (60 + 2 * j))), (2, .int (iI (-4)))] [.int (iI 0)] _ _ _ _
  refine pm_e_sim pm_a69_17 rfl ?_
  show pm_E _ _ _ 18 [(0, .ref (pl 15)), (1, .ref (pl (60 + 2 * j))), (2, .int (iI (-4))), (3, .int (iI 0))] [] _ _ _ _
  refine C_innerPlace_l (E := E) (a := updA (updA a 1 E) 2 D) hW hj hok rfl (fun p a b => by have := en_le ht h1 p a b; omega) (fun r hr => k E D r h1 h3 hr) ((c j).1.toNat + 1) (-4) 0 (by omega) (by omega) (Or.inl ⟨rfl, fun q a b => by omega⟩) (by omega)
set_option maxHeartbeats 4000000 in
set_option maxRecDepth 100000 in
theorem C_howMany_l {d n : Nat} {kd pl : Nat → Nat} {s : Nat → Int} {a : Nat → Int → Int} {c : Nat → cdt} {M : List va_E} {Q : Option Value → List va_E → Nat → Nat → Prop} {j : Nat} (hW : wf n kd pl) (hj : j < 38 ∧ al n kd pl (60 + 2 * j)) (hok : okx (rm j) (c j)) {R : Int} (hrd : ∀ p, 0 ≤ p → p < (c j).1 → (rul (c j) p ≠ -1 ↔ rdx (c j).2.2 p = 1)) (k : 0 ≤ R → R ≤ (c j).1 → Q (some (.int (iI R))) (ch n kd pl s a c M) 0 0) : ∀ (f : Nat) (m i : Int), 0 ≤ i → i ≤ (c j).1 → 0 ≤ m → m ≤ i → cnt (c j).2.2 (c j).1 ((c j).1 - i).toNat i m = R → (c j).1 - i < (f : Int) → pm_E none (d + 2) pm_mm92 4 [(0, .ref (pl 15)), (1, .ref (pl (60 + 2 * j))), (2, .int (iI m)), (3, .int (iI i))] [] (ch n kd pl s a c M) 0 0 Q := by
  intro f
  induction f with
  | zero =>
    intro m i hi0 hi1 hm0 hm1 hR hf
    exfalso; omega
  | succ f ih =>
    intro m i hi0 hi1 hm0 hm1 hR hf
    have rb := rm_b j
    obtain ⟨o1, o2, o3, o4⟩ := id hok
    refine pm_e_sim pm_a92_4 rfl ?_
    show pm_E _ _ _ 5 [(0, .ref (pl 15)), (1, .ref (pl (60 + 2 * j))), (2, .int (iI m)), (3, .int (iI i))] [.int (iI i)] _ _ _ _
    refine pm_e_sim pm_a92_5 rfl ?_
    show pm_E _ _ _ 6 [(0, .ref (pl 15)), (1, .ref (pl (60 + 2 * j))), (2, .int (iI m)), (3, .int (iI i))] [.ref (pl (60 + 2 * j)), .int (iI i)] _ _ _ _
    refine pm_i_get pm_a92_6 rfl (cg_o hj) rfl ?_
    show pm_E _ _ _ 9 [(0, .ref (pl 15)), (1, .ref (pl (60 + 2 * j))), (2, .int (iI m)), (3, .int (iI i))] [.int (iI ((c j).1)), .int (iI i)] _ _ _ _
    refine pm_c_ge (t := 30) pm_a92_9 rfl ⟨by omega, by omega⟩ ⟨by omega, by omega⟩ (fun h_1 => ?_) (fun h_1 => ?_)
    · skip
      show pm_E _ _ _ 30 [(0, .ref (pl 15)), (1, .ref (pl (60 + 2 * j))), (2, .int (iI m)), (3, .int (iI i))] [] _ _ _ _
      refine pm_e_sim pm_a92_30 rfl ?_
      show pm_E _ _ _ 31 [(0, .ref (pl 15)), (1, .ref (pl (60 + 2 * j))), (2, .int (iI m)), (3, .int (iI i))] [.int (iI m)] _ _ _ _
      refine pm_e_ret pm_a92_31 rfl rfl rfl rfl rfl rfl rfl rfl ?_
      rw [cnt_e (by omega)] at hR
      subst hR
      exact k (by omega) (by omega)
    · skip
      show pm_E _ _ _ 12 [(0, .ref (pl 15)), (1, .ref (pl (60 + 2 * j))), (2, .int (iI m)), (3, .int (iI i))] [] _ _ _ _
      refine pm_e_sim pm_a92_12 rfl ?_
      show pm_E _ _ _ 13 [(0, .ref (pl 15)), (1, .ref (pl (60 + 2 * j))), (2, .int (iI m)), (3, .int (iI i))] [.ref (pl (60 + 2 * j))] _ _ _ _
      refine pm_e_sim pm_a92_13 rfl ?_
      show pm_E _ _ _ 14 [(0, .ref (pl 15)), (1, .ref (pl (60 + 2 * j))), (2, .int (iI m)), (3, .int (iI i))] [.int (iI i), .ref (pl (60 + 2 * j))] _ _ _ _
      refine pm_e_call (T2 := pm_mm68) pm_a92_14 rfl rfl rfl rfl rfl rfl rfl rfl rfl ?_
      show pm_E none _ _ 0 [(0, .ref (pl (60 + 2 * j))), (1, .int (iI i))] [] _ _ _ _
      refine C_ruleAt hW hj rfl hok ⟨by omega, by omega⟩ ?_
      have rin := rul_in (c j) (i)
      show pm_E _ _ _ 17 [(0, .ref (pl 15)), (1, .ref (pl (60 + 2 * j))), (2, .int (iI m)), (3, .int (iI i))] [.int (iI (rul (c j) i))] _ _ _ _
      refine pm_e_sim pm_a92_17 rfl ?_
      refine pm_e_top (y := iI (-1)) (by decide +kernel) ?_
      show pm_E _ _ _ 18 [(0, .ref (pl 15)), (1, .ref (pl (60 + 2 * j))), (2, .int (iI m)), (3, .int (iI i))] [.int (iI (-1)), .int (iI (rul (c j) i))] _ _ _ _
      refine pm_c_eq (t := 24) pm_a92_18 rfl ⟨by omega, by omega⟩ ⟨by omega, by omega⟩ (fun h_2 => ?_) (fun h_2 => ?_)
      · skip
        show pm_E _ _ _ 24 [(0, .ref (pl 15)), (1, .ref (pl (60 + 2 * j))), (2, .int (iI m)), (3, .int (iI i))] [] _ _ _ _
        refine pm_e_inc (y := iI (i + 1)) pm_a92_24 rfl (iI_add _ _) (by decide +kernel) rfl ?_
        show pm_E _ _ _ 27 [(0, .ref (pl 15)), (1, .ref (pl (60 + 2 * j))), (2, .int (iI m)), (3, .int (iI (i + 1)))] [] _ _ _ _
        refine pm_e_goto pm_a92_27 rfl ?_
        show pm_E _ _ _ 4 [(0, .ref (pl 15)), (1, .ref (pl (60 + 2 * j))), (2, .int (iI m)), (3, .int (iI (i + 1)))] [] _ _ _ _
        have hz : rdx (c j).2.2 i = 0 := by
          rcases rdx_in (c j).2.2 i with z | z
          · exact z
          · exact absurd (show rul (c j) i = -1 by omega) ((hrd i (by omega) (by omega)).mpr z)
        rw [show ((c j).1 - i).toNat = ((c j).1 - (i + 1)).toNat + 1 by omega, cnt_s (by omega) hz, Int.add_zero] at hR
        exact ih _ _ (by omega) (by omega) (by omega) (by omega) hR (by omega)
      · skip
        show pm_E _ _ _ 21 [(0, .ref (pl 15)), (1, .ref (pl (60 + 2 * j))), (2, .int (iI m)), (3, .int (iI i))] [] _ _ _ _
        refine pm_e_inc (y := iI (m + 1)) pm_a92_21 rfl (iI_add _ _) (by decide +kernel) rfl ?_
        show pm_E _ _ _ 24 [(0, .ref (pl 15)), (1, .ref (pl (60 + 2 * j))), (2, .int (iI (m + 1))), (3, .int (iI i))] [] _ _ _ _
        refine pm_e_inc (y := iI (i + 1)) pm_a92_24 rfl (iI_add _ _) (by decide +kernel) rfl ?_
        show pm_E _ _ _ 27 [(0, .ref (pl 15)), (1, .ref (pl (60 + 2 * j))), (2, .int (iI (m + 1))), (3, .int (iI (i + 1)))] [] _ _ _ _
        refine pm_e_goto pm_a92_27 rfl ?_
        show pm_E _ _ _ 4 [(0, .ref (pl 15)), (1, .ref (pl (60 + 2 * j))), (2, .int (iI (m + 1))), (3, .int (iI (i + 1)))] [] _ _ _ _
        have hz : rdx (c j).2.2 i = 1 := (hrd i (by omega) (by omega)).mp (by omega)
        rw [show ((c j).1 - i).toNat = ((c j).1 - (i + 1)).toNat + 1 by omega, cnt_s (by omega) hz] at hR
        exact ih _ _ (by omega) (by omega) (by omega) (by omega) hR (by omega)
set_option maxHeartbeats 4000000 in
set_option maxRecDepth 100000 in
theorem C_howMany {d n : Nat} {kd pl : Nat → Nat} {s : Nat → Int} {a : Nat → Int → Int} {c : Nat → cdt} {M : List va_E} {Q : Option Value → List va_E → Nat → Nat → Prop} {j : Nat} {y : cdt} {ft : Nat} {k0 : Int} (hW : wf n kd pl) (hj : j < 38 ∧ al n kd pl (60 + 2 * j)) (hy : c j = y) (hok : okx (rm j) y) (ht : tm y.2.2 ft k0 0 y.1) (k : ∀ r, 0 ≤ r → r ≤ y.1 → r = cnt y.2.2 y.1 y.1.toNat 0 0 → Q (some (.int (iI r))) (ch n kd pl s a c M) 0 0) : pm_E none (d + 2) pm_mm92 0 [(0, .ref (pl 15)), (1, .ref (pl (60 + 2 * j)))] [] (ch n kd pl s a c M) 0 0 Q := by
  subst hy
  have rb := rm_b j
  obtain ⟨o1, o2, o3, o4⟩ := id hok
  refine pm_e_sim pm_a92_0 rfl ?_
  refine pm_e_top (y := iI 0) (by decide +kernel) ?_
  show pm_E _ _ _ 1 [(0, .ref (pl 15)), (1, .ref (pl (60 + 2 * j)))] [.int (iI 0)] _ _ _ _
  refine pm_e_sim pm_a92_1 rfl ?_
  show pm_E _ _ _ 2 [(0, .ref (pl 15)), (1, .ref (pl (60 + 2 * j))), (2, .int (iI 0))] [] _ _ _ _
  refine pm_e_sim pm_a92_2 rfl ?_
  refine pm_e_top (y := iI 0) (by decide +kernel) ?_
  show pm_E _ _ _ 3 [(0, .ref (pl 15)), (1, .ref (pl (60 + 2 * j))), (2, .int (iI 0))] [.int (iI 0)] _ _ _ _
  refine pm_e_sim pm_a92_3 rfl ?_
  show pm_E _ _ _ 4 [(0, .ref (pl 15)), (1, .ref (pl (60 + 2 * j))), (2, .int (iI 0)), (3, .int (iI 0))] [] _ _ _ _
  refine C_howMany_l hW hj hok (fun p p0 p1 => ?_) (fun r0 r1 => k _ r0 r1 rfl) ((c j).1.toNat + 1) 0 0 (by omega) (by omega) (by omega) (by omega) (by rw [Int.sub_zero]) (by omega)
  obtain ⟨f2, k2, e2, t2, h2, _⟩ := tm_sub ht p p0 p1
  exact rul_rdx t2 p0 h2
