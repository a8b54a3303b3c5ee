/-! THE REFERENCE: copy, redexes, code -/
set_option maxHeartbeats 4000000 in
set_option maxRecDepth 100000 in
theorem M_copy {d : Nat} {A B : List va_E} {s : Nat → Int} {vl : Int64} {a : Nat → Int → Int} {nm : Nat → Int64} {Q : Option Value → List va_E → Nat → Nat → Prop} {x : Int} (hA : A.length = 18) (hx : in32 x) (h0 : 0 ≤ s 0) (h1 : s 0 ≤ 32) (hsz : ∀ t, 0 ≤ t → t < s 0 → 1 ≤ a 1 t ∧ a 1 t ≤ 500) (k1 : 0 ≤ x → x < s 0 → s 0 < 32 → ∀ r, r = s 0 → Q (some (.int (iI r))) (mh A (updS (updS s 6 (a 1 x)) 0 (s 0 + 1)) vl (updA (updA (updA a 4 (cpI (a 4) (a 2) (500 * x) 0 (a 1 x))) 1 (updI (a 1) (s 0) (a 1 x))) 2 (cqI (a 2) (cpI (a 4) (a 2) (500 * x) 0 (a 1 x)) (500 * s 0) 0 (a 1 x))) nm B) 0 0) (k2 : x < 0 ∨ s 0 ≤ x → Q (some (.int (iI (-1)))) (mh A s vl a nm B) 0 0) (k3 : 0 ≤ x → x < s 0 → s 0 = 32 → Q (some (.int (iI (-3)))) (mh A s vl a nm B) 0 0) : pm_E none (d + 2) pm_mm175 0 [(0, .ref 18), (1, .int (iI x))] [] (mh A s vl a nm B) 0 0 Q := by
  refine pm_e_sim pm_a175_0 rfl ?_
  show pm_E _ _ _ 1 [(0, .ref 18), (1, .int (iI x))] [.ref 18] _ _ _ _
  refine pm_e_sim pm_a175_1 rfl ?_
  show pm_E _ _ _ 2 [(0, .ref 18), (1, .int (iI x))] [.int (iI x), .ref 18] _ _ _ _
  refine pm_i_callv (k := 18) (T2 := pm_mm165) pm_a175_2 rfl rfl rfl (mh_get (j := 0) hA rfl) ⟨Nat.le_of_ble_eq_true rfl, Nat.le_of_ble_eq_true rfl, rfl, by decide +kernel⟩ ?_
  show pm_E none _ _ 0 [(0, .ref 18), (1, .int (iI x))] [] _ _ _ _
  refine M_isTerm hA ⟨by omega, by omega⟩ (by omega) (by omega) (fun h_1 => ?_) (fun h_1 => ?_)
  · skip
    show pm_E _ _ _ 5 [(0, .ref 18), (1, .int (iI x))] [.int (iI 1)] _ _ _ _
    refine pm_e_ift pm_a175_5 rfl (by decide +kernel) ?_
    show pm_E _ _ _ 10 [(0, .ref 18), (1, .int (iI x))] [] _ _ _ _
    refine pm_e_sim pm_a175_10 rfl ?_
    show pm_E _ _ _ 11 [(0, .ref 18), (1, .int (iI x))] [.ref 18] _ _ _ _
    refine pm_i_get pm_a175_11 rfl (mh_get (j := 0) hA rfl) rfl ?_
    show pm_E _ _ _ 14 [(0, .ref 18), (1, .int (iI x))] [.int (iI (s 0))] _ _ _ _
    refine pm_e_sim pm_a175_14 rfl ?_
    refine pm_e_top (y := iI 32) (by decide +kernel) ?_
    show pm_E _ _ _ 16 [(0, .ref 18), (1, .int (iI x))] [.int (iI 32), .int (iI (s 0))] _ _ _ _
    refine pm_c_ne (t := 22) pm_a175_16 rfl ⟨by omega, by omega⟩ ⟨by omega, by omega⟩ (fun h_2 => ?_) (fun h_2 => ?_)
    · skip
      show pm_E _ _ _ 22 [(0, .ref 18), (1, .int (iI x))] [] _ _ _ _
      refine pm_e_sim pm_a175_22 rfl ?_
      show pm_E _ _ _ 23 [(0, .ref 18), (1, .int (iI x))] [.ref 18] _ _ _ _
      refine pm_e_sim pm_a175_23 rfl ?_
      show pm_E _ _ _ 24 [(0, .ref 18), (1, .int (iI x))] [.int (iI x), .ref 18] _ _ _ _
      refine pm_i_callv (k := 18) (T2 := pm_mm168) pm_a175_24 rfl rfl rfl (mh_get (j := 0) hA rfl) ⟨Nat.le_of_ble_eq_true rfl, Nat.le_of_ble_eq_true rfl, rfl, by decide +kernel⟩ ?_
      show pm_E none _ _ 0 [(0, .ref 18), (1, .int (iI x))] [] _ _ _ _
      obtain ⟨z1, y1⟩ := hsz (x) (by omega) (by omega)
      refine M_take hA (by omega) (by omega) (by omega) (by omega) (fun s1 a1 e1 f1 => ?_)
      subst e1 f1
      show pm_E _ _ _ 27 [(0, .ref 18), (1, .int (iI x))] [] _ _ _ _
      refine pm_e_sim pm_a175_27 rfl ?_
      show pm_E _ _ _ 28 [(0, .ref 18), (1, .int (iI x))] [.ref 18] _ _ _ _
      refine pm_e_sim pm_a175_28 rfl ?_
      show pm_E _ _ _ 29 [(0, .ref 18), (1, .int (iI x))] [.ref 18, .ref 18] _ _ _ _
      refine pm_i_get pm_a175_29 rfl (mh_get (j := 0) hA rfl) rfl ?_
      show pm_E _ _ _ 32 [(0, .ref 18), (1, .int (iI x))] [.int (iI (s 0)), .ref 18] _ _ _ _
      refine pm_i_callv (k := 18) (T2 := pm_mm162) pm_a175_32 rfl rfl rfl (mh_get (j := 0) hA rfl) ⟨Nat.le_of_ble_eq_true rfl, Nat.le_of_ble_eq_true rfl, rfl, by decide +kernel⟩ ?_
      show pm_E none _ _ 0 [(0, .ref 18), (1, .int (iI (s 0)))] [] _ _ _ _
      refine M_keep hA (show 0 ≤ s 0 by omega) (show s 0 < 32 by omega) (show 0 ≤ a 1 (x) by omega) (show a 1 (x) ≤ 500 by omega) (fun a2 f2 => ?_)
      subst f2
      show pm_E _ _ _ 35 [(0, .ref 18), (1, .int (iI x))] [] _ _ _ _
      refine pm_e_sim pm_a175_35 rfl ?_
      show pm_E _ _ _ 36 [(0, .ref 18), (1, .int (iI x))] [.ref 18] _ _ _ _
      refine pm_e_sim pm_a175_36 rfl ?_
      show pm_E _ _ _ 37 [(0, .ref 18), (1, .int (iI x))] [.ref 18, .ref 18] _ _ _ _
      refine pm_i_get pm_a175_37 rfl (mh_get (j := 0) hA rfl) rfl ?_
      show pm_E _ _ _ 40 [(0, .ref 18), (1, .int (iI x))] [.int (iI (s 0)), .ref 18] _ _ _ _
      refine pm_e_sim pm_a175_40 rfl ?_
      refine pm_e_top (y := iI 1) (by decide +kernel) ?_
      show pm_E _ _ _ 41 [(0, .ref 18), (1, .int (iI x))] [.int (iI 1), .int (iI (s 0)), .ref 18] _ _ _ _
      refine pm_e_sim pm_a175_41 rfl ?_
      refine pm_e_top (y := iI (s 0 + 1)) (iI_add _ _) ?_
      show pm_E _ _ _ 42 [(0, .ref 18), (1, .int (iI x))] [.int (iI (s 0 + 1)), .ref 18] _ _ _ _
      refine pm_i_put pm_a175_42 rfl (mh_get (j := 0) hA rfl) rfl (Nat.le_of_ble_eq_true rfl) (Or.inl rfl) (mw_0 hA _) ?_
      show pm_E _ _ _ 45 [(0, .ref 18), (1, .int (iI x))] [] _ _ _ _
      refine pm_e_sim pm_a175_45 rfl ?_
      show pm_E _ _ _ 46 [(0, .ref 18), (1, .int (iI x))] [.ref 18] _ _ _ _
      refine pm_i_get pm_a175_46 rfl (mh_get (j := 0) hA rfl) rfl ?_
      show pm_E _ _ _ 49 [(0, .ref 18), (1, .int (iI x))] [.int (iI (s 0 + 1))] _ _ _ _
      refine pm_e_sim pm_a175_49 rfl ?_
      refine pm_e_top (y := iI 1) (by decide +kernel) ?_
      show pm_E _ _ _ 50 [(0, .ref 18), (1, .int (iI x))] [.int (iI 1), .int (iI (s 0 + 1))] _ _ _ _
      refine pm_e_sim pm_a175_50 rfl ?_
      refine pm_e_top (y := iI (s 0 + 1 - 1)) (iI_sub _ _) ?_
      show pm_E _ _ _ 51 [(0, .ref 18), (1, .int (iI x))] [.int (iI (s 0 + 1 - 1))] _ _ _ _
      refine pm_e_ret pm_a175_51 rfl rfl rfl rfl rfl rfl rfl rfl ?_
      exact k1 (by omega) (by omega) (by omega) _ (show s 0 + 1 - 1 = s 0 by omega)
    · skip
      show pm_E _ _ _ 19 [(0, .ref 18), (1, .int (iI x))] [] _ _ _ _
      refine pm_e_sim pm_a175_19 rfl ?_
      refine pm_e_top (y := iI (-3)) (by decide +kernel) ?_
      show pm_E _ _ _ 21 [(0, .ref 18), (1, .int (iI x))] [.int (iI (-3))] _ _ _ _
      refine pm_e_ret pm_a175_21 rfl rfl rfl rfl rfl rfl rfl rfl ?_
      exact k3 (by omega) (by omega) (by omega)
  · skip
    show pm_E _ _ _ 5 [(0, .ref 18), (1, .int (iI x))] [.int (iI 0)] _ _ _ _
    refine pm_e_iff pm_a175_5 rfl (by decide +kernel) ?_
    show pm_E _ _ _ 8 [(0, .ref 18), (1, .int (iI x))] [] _ _ _ _
    refine pm_e_sim pm_a175_8 rfl ?_
    refine pm_e_top (y := iI (-1)) (by decide +kernel) ?_
    show pm_E _ _ _ 9 [(0, .ref 18), (1, .int (iI x))] [.int (iI (-1))] _ _ _ _
    refine pm_e_ret pm_a175_9 rfl rfl rfl rfl rfl rfl rfl rfl ?_
    exact k2 (by omega)
