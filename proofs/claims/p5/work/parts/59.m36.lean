/-! THE REFERENCE: typeOfLetter, unite -/
theorem M_anyF {d : Nat} {A B : List va_E} {s : Nat → Int} {vl : Int64} {a : Nat → Int → Int} {nm : Nat → Int64} {Q : Option Value → List va_E → Nat → Nat → Prop} (hA : A.length = 18) (hF : FI (a 17) (a 18) (a 19) (s 32)) (h1 : s 32 < 9000) (k : ∀ s' a', FI (a' 17) (a' 18) (a' 19) (s' 32) → s' 32 = s 32 + 1 → (∀ j, j ≠ 32 → s' j = s j) → (∀ j, j ≠ 17 → j ≠ 18 → j ≠ 19 → a' j = a j) → Q (some (.int (iI (s 32)))) (mh A s' vl a' nm B) 0 0) : pm_E none d pm_mm204 0 [(0, .ref 18)] [] (mh A s vl a nm B) 0 0 Q := by
  refine M_any hA hF.1 h1 (fun s' a' es ea => ?_)
  subst es; subst ea
  exact k _ _ (FI_any hF) rfl (fun j h => by simp [updS, h]) (fun j h2 h3 h4 => by simp [updA, h2, h3])
theorem M_arrowF {d : Nat} {A B : List va_E} {s : Nat → Int} {vl : Int64} {a : Nat → Int → Int} {nm : Nat → Int64} {Q : Option Value → List va_E → Nat → Nat → Prop} {x y : Int} (hA : A.length = 18) (hF : FI (a 17) (a 18) (a 19) (s 32)) (h1 : s 32 < 9000) (hx : 0 ≤ x ∧ x < s 32) (hy : 0 ≤ y ∧ y < s 32) (k : ∀ s' a', FI (a' 17) (a' 18) (a' 19) (s' 32) → s' 32 = s 32 + 1 → (∀ j, j ≠ 32 → s' j = s j) → (∀ j, j ≠ 17 → j ≠ 18 → j ≠ 19 → a' j = a j) → Q (some (.int (iI (s 32)))) (mh A s' vl a' nm B) 0 0) : pm_E none (d + 1) pm_mm205 0 [(0, .ref 18), (1, .int (iI x)), (2, .int (iI y))] [] (mh A s vl a nm B) 0 0 Q := by
  refine M_arrow hA hF.1 h1 (fun s' a' es ea => ?_)
  obtain ⟨e1, e2, e3, e4⟩ := ea
  subst es
  exact k _ _ (by rw [e1, e2, e3]; exact FI_arrow hF hx hy) rfl (fun j h => by simp [updS, h]) e4
set_option maxHeartbeats 4000000 in
set_option maxRecDepth 100000 in
theorem M_typeOfLetter {d : Nat} {A B : List va_E} {s : Nat → Int} {vl : Int64} {a : Nat → Int → Int} {nm : Nat → Int64} {Q : Option Value → List va_E → Nat → Nat → Prop} {c x : Int} (hA : A.length = 18) (hc : in32 c) (hF : FI (a 17) (a 18) (a 19) (s 32)) (h1 : s 32 < 8900) (hx : 0 ≤ x ∧ x < s 32) (k : ∀ r s' a', 0 ≤ r → r < s' 32 → FI (a' 17) (a' 18) (a' 19) (s' 32) → s 32 ≤ s' 32 → s' 32 ≤ s 32 + 9 → (∀ j, j ≠ 32 → s' j = s j) → (∀ j, j ≠ 17 → j ≠ 18 → j ≠ 19 → a' j = a j) → Q (some (.int (iI r))) (mh A s' vl a' nm B) 0 0) : pm_E none (d + 2) pm_mm208 0 [(0, .ref 18), (1, .int (iI c)), (2, .int (iI x))] [] (mh A s vl a nm B) 0 0 Q := by
  have hK := hF.1
  refine pm_e_sim pm_a208_0 rfl ?_
  show pm_E _ _ _ 1 [(0, .ref 18), (1, .int (iI c)), (2, .int (iI x))] [.int (iI c)] _ _ _ _
  refine pm_e_sim pm_a208_1 rfl ?_
  refine pm_e_top (y := iI 5) (by decide +kernel) ?_
  show pm_E _ _ _ 2 [(0, .ref 18), (1, .int (iI c)), (2, .int (iI x))] [.int (iI 5), .int (iI c)] _ _ _ _
  refine pm_c_ne (t := 12) pm_a208_2 rfl ⟨by omega, by omega⟩ ⟨by omega, by omega⟩ (fun h_1 => ?_) (fun h_1 => ?_)
  · skip
    show pm_E _ _ _ 12 [(0, .ref 18), (1, .int (iI c)), (2, .int (iI x))] [] _ _ _ _
    refine pm_e_sim pm_a208_12 rfl ?_
    show pm_E _ _ _ 13 [(0, .ref 18), (1, .int (iI c)), (2, .int (iI x))] [.int (iI c)] _ _ _ _
    refine pm_e_sim pm_a208_13 rfl ?_
    refine pm_e_top (y := iI 6) (by decide +kernel) ?_
    show pm_E _ _ _ 15 [(0, .ref 18), (1, .int (iI c)), (2, .int (iI x))] [.int (iI 6), .int (iI c)] _ _ _ _
    refine pm_c_ne (t := 20) pm_a208_15 rfl ⟨by omega, by omega⟩ ⟨by omega, by omega⟩ (fun h_2 => ?_) (fun h_2 => ?_)
    · skip
      show pm_E _ _ _ 20 [(0, .ref 18), (1, .int (iI c)), (2, .int (iI x))] [] _ _ _ _
      refine pm_e_sim pm_a208_20 rfl ?_
      show pm_E _ _ _ 21 [(0, .ref 18), (1, .int (iI c)), (2, .int (iI x))] [.ref 18] _ _ _ _
      refine pm_i_callv (k := 18) (T2 := pm_mm204) pm_a208_21 rfl rfl rfl (mh_get (j := 0) hA rfl) ⟨Nat.le_of_ble_eq_true rfl, Nat.le_of_ble_eq_true rfl, rfl, by decide +kernel⟩ ?_
      show pm_E none _ _ 0 [(0, .ref 18)] [] _ _ _ _
      refine M_anyF hA hF (by omega) (fun s1_ a1_ hF1 eK1 gs1 ga1 => ?_)
      have fs1 := gs1
      have fa1 := ga1
      have hK1 := hF1.1
      show pm_E _ _ _ 24 [(0, .ref 18), (1, .int (iI c)), (2, .int (iI x))] [.int (iI (s 32))] _ _ _ _
      refine pm_e_sim pm_a208_24 rfl ?_
      show pm_E _ _ _ 25 [(0, .ref 18), (1, .int (iI c)), (2, .int (iI x)), (3, .int (iI (s 32)))] [] _ _ _ _
      refine pm_e_sim pm_a208_25 rfl ?_
      show pm_E _ _ _ 26 [(0, .ref 18), (1, .int (iI c)), (2, .int (iI x)), (3, .int (iI (s 32)))] [.int (iI c)] _ _ _ _
      refine pm_e_sim pm_a208_26 rfl ?_
      refine pm_e_top (y := iI 4) (by decide +kernel) ?_
      show pm_E _ _ _ 27 [(0, .ref 18), (1, .int (iI c)), (2, .int (iI x)), (3, .int (iI (s 32)))] [.int (iI 4), .int (iI c)] _ _ _ _
      refine pm_c_ne (t := 37) pm_a208_27 rfl ⟨by omega, by omega⟩ ⟨by omega, by omega⟩ (fun h_3 => ?_) (fun h_3 => ?_)
      · skip
        show pm_E _ _ _ 37 [(0, .ref 18), (1, .int (iI c)), (2, .int (iI x)), (3, .int (iI (s 32)))] [] _ _ _ _
        refine pm_e_sim pm_a208_37 rfl ?_
        show pm_E _ _ _ 38 [(0, .ref 18), (1, .int (iI c)), (2, .int (iI x)), (3, .int (iI (s 32)))] [.ref 18] _ _ _ _
        refine pm_i_callv (k := 18) (T2 := pm_mm204) pm_a208_38 rfl rfl rfl (mh_get (j := 0) hA rfl) ⟨Nat.le_of_ble_eq_true rfl, Nat.le_of_ble_eq_true rfl, rfl, by decide +kernel⟩ ?_
        show pm_E none _ _ 0 [(0, .ref 18)] [] _ _ _ _
        refine M_anyF hA hF1 (by omega) (fun s2_ a2_ hF2 eK2 gs2 ga2 => ?_)
        have fs2 : ∀ j, j ≠ 32 → s2_ j = s j := fun j h => by rw [gs2 j h]; exact fs1 j h
        have fa2 : ∀ j, j ≠ 17 → j ≠ 18 → j ≠ 19 → a2_ j = a j := fun j h h2 h3 => by rw [ga2 j h h2 h3]; exact fa1 j h h2 h3
        have hK2 := hF2.1
        show pm_E _ _ _ 41 [(0, .ref 18), (1, .int (iI c)), (2, .int (iI x)), (3, .int (iI (s 32)))] [.int (iI (s1_ 32))] _ _ _ _
        refine pm_e_sim pm_a208_41 rfl ?_
        show pm_E _ _ _ 43 [(0, .ref 18), (1, .int (iI c)), (2, .int (iI x)), (3, .int (iI (s 32))), (4, .int (iI (s1_ 32)))] [] _ _ _ _
        refine pm_e_sim pm_a208_43 rfl ?_
        show pm_E _ _ _ 44 [(0, .ref 18), (1, .int (iI c)), (2, .int (iI x)), (3, .int (iI (s 32))), (4, .int (iI (s1_ 32)))] [.int (iI c)] _ _ _ _
        refine pm_e_sim pm_a208_44 rfl ?_
        refine pm_e_top (y := iI 3) (by decide +kernel) ?_
        show pm_E _ _ _ 45 [(0, .ref 18), (1, .int (iI c)), (2, .int (iI x)), (3, .int (iI (s 32))), (4, .int (iI (s1_ 32)))] [.int (iI 3), .int (iI c)] _ _ _ _
        refine pm_c_ne (t := 61) pm_a208_45 rfl ⟨by omega, by omega⟩ ⟨by omega, by omega⟩ (fun h_4 => ?_) (fun h_4 => ?_)
        · skip
          show pm_E _ _ _ 61 [(0, .ref 18), (1, .int (iI c)), (2, .int (iI x)), (3, .int (iI (s 32))), (4, .int (iI (s1_ 32)))] [] _ _ _ _
          refine pm_e_sim pm_a208_61 rfl ?_
          show pm_E _ _ _ 62 [(0, .ref 18), (1, .int (iI c)), (2, .int (iI x)), (3, .int (iI (s 32))), (4, .int (iI (s1_ 32)))] [.ref 18] _ _ _ _
          refine pm_i_callv (k := 18) (T2 := pm_mm204) pm_a208_62 rfl rfl rfl (mh_get (j := 0) hA rfl) ⟨Nat.le_of_ble_eq_true rfl, Nat.le_of_ble_eq_true rfl, rfl, by decide +kernel⟩ ?_
          show pm_E none _ _ 0 [(0, .ref 18)] [] _ _ _ _
          refine M_anyF hA hF2 (by omega) (fun s3_ a3_ hF3 eK3 gs3 ga3 => ?_)
          have fs3 : ∀ j, j ≠ 32 → s3_ j = s j := fun j h => by rw [gs3 j h]; exact fs2 j h
          have fa3 : ∀ j, j ≠ 17 → j ≠ 18 → j ≠ 19 → a3_ j = a j := fun j h h2 h3 => by rw [ga3 j h h2 h3]; exact fa2 j h h2 h3
          have hK3 := hF3.1
          show pm_E _ _ _ 65 [(0, .ref 18), (1, .int (iI c)), (2, .int (iI x)), (3, .int (iI (s 32))), (4, .int (iI (s1_ 32)))] [.int (iI (s2_ 32))] _ _ _ _
          refine pm_e_sim pm_a208_65 rfl ?_
          show pm_E _ _ _ 67 [(0, .ref 18), (1, .int (iI c)), (2, .int (iI x)), (3, .int (iI (s 32))), (4, .int (iI (s1_ 32))), (5, .int (iI (s2_ 32)))] [] _ _ _ _
          refine pm_e_sim pm_a208_67 rfl ?_
          show pm_E _ _ _ 68 [(0, .ref 18), (1, .int (iI c)), (2, .int (iI x)), (3, .int (iI (s 32))), (4, .int (iI (s1_ 32))), (5, .int (iI (s2_ 32)))] [.ref 18] _ _ _ _
          refine pm_e_sim pm_a208_68 rfl ?_
          show pm_E _ _ _ 69 [(0, .ref 18), (1, .int (iI c)), (2, .int (iI x)), (3, .int (iI (s 32))), (4, .int (iI (s1_ 32))), (5, .int (iI (s2_ 32)))] [.ref 18, .ref 18] _ _ _ _
          refine pm_e_sim pm_a208_69 rfl ?_
          show pm_E _ _ _ 70 [(0, .ref 18), (1, .int (iI c)), (2, .int (iI x)), (3, .int (iI (s 32))), (4, .int (iI (s1_ 32))), (5, .int (iI (s2_ 32)))] [.int (iI (s 32)), .ref 18, .ref 18] _ _ _ _
          refine pm_e_sim pm_a208_70 rfl ?_
          show pm_E _ _ _ 71 [(0, .ref 18), (1, .int (iI c)), (2, .int (iI x)), (3, .int (iI (s 32))), (4, .int (iI (s1_ 32))), (5, .int (iI (s2_ 32)))] [.ref 18, .int (iI (s 32)), .ref 18, .ref 18] _ _ _ _
          refine pm_e_sim pm_a208_71 rfl ?_
          show pm_E _ _ _ 73 [(0, .ref 18), (1, .int (iI c)), (2, .int (iI x)), (3, .int (iI (s 32))), (4, .int (iI (s1_ 32))), (5, .int (iI (s2_ 32)))] [.int (iI (s1_ 32)), .ref 18, .int (iI (s 32)), .ref 18, .ref 18] _ _ _ _
          refine pm_e_sim pm_a208_73 rfl ?_
          show pm_E _ _ _ 75 [(0, .ref 18), (1, .int (iI c)), (2, .int (iI x)), (3, .int (iI (s 32))), (4, .int (iI (s1_ 32))), (5, .int (iI (s2_ 32)))] [.int (iI (s2_ 32)), .int (iI (s1_ 32)), .ref 18, .int (iI (s 32)), .ref 18, .ref 18] _ _ _ _
          refine pm_i_callv (k := 18) (T2 := pm_mm205) pm_a208_75 rfl rfl rfl (mh_get (j := 0) hA rfl) ⟨Nat.le_of_ble_eq_true rfl, Nat.le_of_ble_eq_true rfl, rfl, by decide +kernel⟩ ?_
          show pm_E none _ _ 0 [(0, .ref 18), (1, .int (iI (s1_ 32))), (2, .int (iI (s2_ 32)))] [] _ _ _ _
          refine M_arrowF hA hF3 (by omega) ⟨by omega, by omega⟩ ⟨by omega, by omega⟩ (fun s4_ a4_ hF4 eK4 gs4 ga4 => ?_)
          have fs4 : ∀ j, j ≠ 32 → s4_ j = s j := fun j h => by rw [gs4 j h]; exact fs3 j h
          have fa4 : ∀ j, j ≠ 17 → j ≠ 18 → j ≠ 19 → a4_ j = a j := fun j h h2 h3 => by rw [ga4 j h h2 h3]; exact fa3 j h h2 h3
          have hK4 := hF4.1
          show pm_E _ _ _ 78 [(0, .ref 18), (1, .int (iI c)), (2, .int (iI x)), (3, .int (iI (s 32))), (4, .int (iI (s1_ 32))), (5, .int (iI (s2_ 32)))] [.int (iI (s3_ 32)), .int (iI (s 32)), .ref 18, .ref 18] _ _ _ _
          refine pm_i_callv (k := 18) (T2 := pm_mm205) pm_a208_78 rfl rfl rfl (mh_get (j := 0) hA rfl) ⟨Nat.le_of_ble_eq_true rfl, Nat.le_of_ble_eq_true rfl, rfl, by decide +kernel⟩ ?_
          show pm_E none _ _ 0 [(0, .ref 18), (1, .int (iI (s 32))), (2, .int (iI (s3_ 32)))] [] _ _ _ _
          refine M_arrowF hA hF4 (by omega) ⟨by omega, by omega⟩ ⟨by omega, by omega⟩ (fun s5_ a5_ hF5 eK5 gs5 ga5 => ?_)
          have fs5 : ∀ j, j ≠ 32 → s5_ j = s j := fun j h => by rw [gs5 j h]; exact fs4 j h
          have fa5 : ∀ j, j ≠ 17 → j ≠ 18 → j ≠ 19 → a5_ j = a j := fun j h h2 h3 => by rw [ga5 j h h2 h3]; exact fa4 j h h2 h3
          have hK5 := hF5.1
          show pm_E _ _ _ 81 [(0, .ref 18), (1, .int (iI c)), (2, .int (iI x)), (3, .int (iI (s 32))), (4, .int (iI (s1_ 32))), (5, .int (iI (s2_ 32)))] [.int (iI (s4_ 32)), .ref 18] _ _ _ _
          refine pm_e_sim pm_a208_81 rfl ?_
          show pm_E _ _ _ 82 [(0, .ref 18), (1, .int (iI c)), (2, .int (iI x)), (3, .int (iI (s 32))), (4, .int (iI (s1_ 32))), (5, .int (iI (s2_ 32)))] [.ref 18, .int (iI (s4_ 32)), .ref 18] _ _ _ _
          refine pm_e_sim pm_a208_82 rfl ?_
          show pm_E _ _ _ 83 [(0, .ref 18), (1, .int (iI c)), (2, .int (iI x)), (3, .int (iI (s 32))), (4, .int (iI (s1_ 32))), (5, .int (iI (s2_ 32)))] [.ref 18, .ref 18, .int (iI (s4_ 32)), .ref 18] _ _ _ _
          refine pm_e_sim pm_a208_83 rfl ?_
          show pm_E _ _ _ 84 [(0, .ref 18), (1, .int (iI c)), (2, .int (iI x)), (3, .int (iI (s 32))), (4, .int (iI (s1_ 32))), (5, .int (iI (s2_ 32)))] [.int (iI (s 32)), .ref 18, .ref 18, .int (iI (s4_ 32)), .ref 18] _ _ _ _
          refine pm_e_sim pm_a208_84 rfl ?_
          show pm_E _ _ _ 86 [(0, .ref 18), (1, .int (iI c)), (2, .int (iI x)), (3, .int (iI (s 32))), (4, .int (iI (s1_ 32))), (5, .int (iI (s2_ 32)))] [.int (iI (s1_ 32)), .int (iI (s 32)), .ref 18, .ref 18, .int (iI (s4_ 32)), .ref 18] _ _ _ _
          refine pm_i_callv (k := 18) (T2 := pm_mm205) pm_a208_86 rfl rfl rfl (mh_get (j := 0) hA rfl) ⟨Nat.le_of_ble_eq_true rfl, Nat.le_of_ble_eq_true rfl, rfl, by decide +kernel⟩ ?_
          show pm_E none _ _ 0 [(0, .ref 18), (1, .int (iI (s 32))), (2, .int (iI (s1_ 32)))] [] _ _ _ _
          refine M_arrowF hA hF5 (by omega) ⟨by omega, by omega⟩ ⟨by omega, by omega⟩ (fun s6_ a6_ hF6 eK6 gs6 ga6 => ?_)
          have fs6 : ∀ j, j ≠ 32 → s6_ j = s j := fun j h => by rw [gs6 j h]; exact fs5 j h
          have fa6 : ∀ j, j ≠ 17 → j ≠ 18 → j ≠ 19 → a6_ j = a j := fun j h h2 h3 => by rw [ga6 j h h2 h3]; exact fa5 j h h2 h3
          have hK6 := hF6.1
          show pm_E _ _ _ 89 [(0, .ref 18), (1, .int (iI c)), (2, .int (iI x)), (3, .int (iI (s 32))), (4, .int (iI (s1_ 32))), (5, .int (iI (s2_ 32)))] [.int (iI (s5_ 32)), .ref 18, .int (iI (s4_ 32)), .ref 18] _ _ _ _
          refine pm_e_sim pm_a208_89 rfl ?_
          show pm_E _ _ _ 90 [(0, .ref 18), (1, .int (iI c)), (2, .int (iI x)), (3, .int (iI (s 32))), (4, .int (iI (s1_ 32))), (5, .int (iI (s2_ 32)))] [.ref 18, .int (iI (s5_ 32)), .ref 18, .int (iI (s4_ 32)), .ref 18] _ _ _ _
          refine pm_e_sim pm_a208_90 rfl ?_
          show pm_E _ _ _ 91 [(0, .ref 18), (1, .int (iI c)), (2, .int (iI x)), (3, .int (iI (s 32))), (4, .int (iI (s1_ 32))), (5, .int (iI (s2_ 32)))] [.int (iI (s 32)), .ref 18, .int (iI (s5_ 32)), .ref 18, .int (iI (s4_ 32)), .ref 18] _ _ _ _
          refine pm_e_sim pm_a208_91 rfl ?_
          show pm_E _ _ _ 93 [(0, .ref 18), (1, .int (iI c)), (2, .int (iI x)), (3, .int (iI (s 32))), (4, .int (iI (s1_ 32))), (5, .int (iI (s2_ 32)))] [.int (iI (s2_ 32)), .int (iI (s 32)), .ref 18, .int (iI (s5_ 32)), .ref 18, .int (iI (s4_ 32)), .ref 18] _ _ _ _
          refine pm_i_callv (k := 18) (T2 := pm_mm205) pm_a208_93 rfl rfl rfl (mh_get (j := 0) hA rfl) ⟨Nat.le_of_ble_eq_true rfl, Nat.le_of_ble_eq_true rfl, rfl, by decide +kernel⟩ ?_
          show pm_E none _ _ 0 [(0, .ref 18), (1, .int (iI (s 32))), (2, .int (iI (s2_ 32)))] [] _ _ _ _
          refine M_arrowF hA hF6 (by omega) ⟨by omega, by omega⟩ ⟨by omega, by omega⟩ (fun s7_ a7_ hF7 eK7 gs7 ga7 => ?_)
          have fs7 : ∀ j, j ≠ 32 → s7_ j = s j := fun j h => by rw [gs7 j h]; exact fs6 j h
          have fa7 : ∀ j, j ≠ 17 → j ≠ 18 → j ≠ 19 → a7_ j = a j := fun j h h2 h3 => by rw [ga7 j h h2 h3]; exact fa6 j h h2 h3
          have hK7 := hF7.1
          show pm_E _ _ _ 96 [(0, .ref 18), (1, .int (iI c)), (2, .int (iI x)), (3, .int (iI (s 32))), (4, .int (iI (s1_ 32))), (5, .int (iI (s2_ 32)))] [.int (iI (s6_ 32)), .int (iI (s5_ 32)), .ref 18, .int (iI (s4_ 32)), .ref 18] _ _ _ _
          refine pm_i_callv (k := 18) (T2 := pm_mm205) pm_a208_96 rfl rfl rfl (mh_get (j := 0) hA rfl) ⟨Nat.le_of_ble_eq_true rfl, Nat.le_of_ble_eq_true rfl, rfl, by decide +kernel⟩ ?_
          show pm_E none _ _ 0 [(0, .ref 18), (1, .int (iI (s5_ 32))), (2, .int (iI (s6_ 32)))] [] _ _ _ _
          refine M_arrowF hA hF7 (by omega) ⟨by omega, by omega⟩ ⟨by omega, by omega⟩ (fun s8_ a8_ hF8 eK8 gs8 ga8 => ?_)
          have fs8 : ∀ j, j ≠ 32 → s8_ j = s j := fun j h => by rw [gs8 j h]; exact fs7 j h
          have fa8 : ∀ j, j ≠ 17 → j ≠ 18 → j ≠ 19 → a8_ j = a j := fun j h h2 h3 => by rw [ga8 j h h2 h3]; exact fa7 j h h2 h3
          have hK8 := hF8.1
          show pm_E _ _ _ 99 [(0, .ref 18), (1, .int (iI c)), (2, .int (iI x)), (3, .int (iI (s 32))), (4, .int (iI (s1_ 32))), (5, .int (iI (s2_ 32)))] [.int (iI (s7_ 32)), .int (iI (s4_ 32)), .ref 18] _ _ _ _
          refine pm_i_callv (k := 18) (T2 := pm_mm205) pm_a208_99 rfl rfl rfl (mh_get (j := 0) hA rfl) ⟨Nat.le_of_ble_eq_true rfl, Nat.le_of_ble_eq_true rfl, rfl, by decide +kernel⟩ ?_
          show pm_E none _ _ 0 [(0, .ref 18), (1, .int (iI (s4_ 32))), (2, .int (iI (s7_ 32)))] [] _ _ _ _
          refine M_arrowF hA hF8 (by omega) ⟨by omega, by omega⟩ ⟨by omega, by omega⟩ (fun s9_ a9_ hF9 eK9 gs9 ga9 => ?_)
          have fs9 : ∀ j, j ≠ 32 → s9_ j = s j := fun j h => by rw [gs9 j h]; exact fs8 j h
          have fa9 : ∀ j, j ≠ 17 → j ≠ 18 → j ≠ 19 → a9_ j = a j := fun j h h2 h3 => by rw [ga9 j h h2 h3]; exact fa8 j h h2 h3
          have hK9 := hF9.1
          show pm_E _ _ _ 102 [(0, .ref 18), (1, .int (iI c)), (2, .int (iI x)), (3, .int (iI (s 32))), (4, .int (iI (s1_ 32))), (5, .int (iI (s2_ 32)))] [.int (iI (s8_ 32))] _ _ _ _
          refine pm_e_ret pm_a208_102 rfl rfl rfl rfl rfl rfl rfl rfl ?_
          exact k _ s9_ a9_ (by omega) (by omega) hF9 (by omega) (by omega) fs9 fa9
        · skip
          show pm_E _ _ _ 48 [(0, .ref 18), (1, .int (iI c)), (2, .int (iI x)), (3, .int (iI (s 32))), (4, .int (iI (s1_ 32)))] [] _ _ _ _
          refine pm_e_sim pm_a208_48 rfl ?_
          show pm_E _ _ _ 49 [(0, .ref 18), (1, .int (iI c)), (2, .int (iI x)), (3, .int (iI (s 32))), (4, .int (iI (s1_ 32)))] [.ref 18] _ _ _ _
          refine pm_e_sim pm_a208_49 rfl ?_
          show pm_E _ _ _ 50 [(0, .ref 18), (1, .int (iI c)), (2, .int (iI x)), (3, .int (iI (s 32))), (4, .int (iI (s1_ 32)))] [.int (iI (s 32)), .ref 18] _ _ _ _
          refine pm_e_sim pm_a208_50 rfl ?_
          show pm_E _ _ _ 51 [(0, .ref 18), (1, .int (iI c)), (2, .int (iI x)), (3, .int (iI (s 32))), (4, .int (iI (s1_ 32)))] [.ref 18, .int (iI (s 32)), .ref 18] _ _ _ _
          refine pm_e_sim pm_a208_51 rfl ?_
          show pm_E _ _ _ 53 [(0, .ref 18), (1, .int (iI c)), (2, .int (iI x)), (3, .int (iI (s 32))), (4, .int (iI (s1_ 32)))] [.int (iI (s1_ 32)), .ref 18, .int (iI (s 32)), .ref 18] _ _ _ _
          refine pm_e_sim pm_a208_53 rfl ?_
          show pm_E _ _ _ 54 [(0, .ref 18), (1, .int (iI c)), (2, .int (iI x)), (3, .int (iI (s 32))), (4, .int (iI (s1_ 32)))] [.int (iI (s 32)), .int (iI (s1_ 32)), .ref 18, .int (iI (s 32)), .ref 18] _ _ _ _
          refine pm_i_callv (k := 18) (T2 := pm_mm205) pm_a208_54 rfl rfl rfl (mh_get (j := 0) hA rfl) ⟨Nat.le_of_ble_eq_true rfl, Nat.le_of_ble_eq_true rfl, rfl, by decide +kernel⟩ ?_
          show pm_E none _ _ 0 [(0, .ref 18), (1, .int (iI (s1_ 32))), (2, .int (iI (s 32)))] [] _ _ _ _
          refine M_arrowF hA hF2 (by omega) ⟨by omega, by omega⟩ ⟨by omega, by omega⟩ (fun s10_ a10_ hF10 eK10 gs10 ga10 => ?_)
          have fs10 : ∀ j, j ≠ 32 → s10_ j = s j := fun j h => by rw [gs10 j h]; exact fs2 j h
          have fa10 : ∀ j, j ≠ 17 → j ≠ 18 → j ≠ 19 → a10_ j = a j := fun j h h2 h3 => by rw [ga10 j h h2 h3]; exact fa2 j h h2 h3
          have hK10 := hF10.1
          show pm_E _ _ _ 57 [(0, .ref 18), (1, .int (iI c)), (2, .int (iI x)), (3, .int (iI (s 32))), (4, .int (iI (s1_ 32)))] [.int (iI (s2_ 32)), .int (iI (s 32)), .ref 18] _ _ _ _
          refine pm_i_callv (k := 18) (T2 := pm_mm205) pm_a208_57 rfl rfl rfl (mh_get (j := 0) hA rfl) ⟨Nat.le_of_ble_eq_true rfl, Nat.le_of_ble_eq_true rfl, rfl, by decide +kernel⟩ ?_
          show pm_E none _ _ 0 [(0, .ref 18), (1, .int (iI (s 32))), (2, .int (iI (s2_ 32)))] [] _ _ _ _
          refine M_arrowF hA hF10 (by omega) ⟨by omega, by omega⟩ ⟨by omega, by omega⟩ (fun s11_ a11_ hF11 eK11 gs11 ga11 => ?_)
          have fs11 : ∀ j, j ≠ 32 → s11_ j = s j := fun j h => by rw [gs11 j h]; exact fs10 j h
          have fa11 : ∀ j, j ≠ 17 → j ≠ 18 → j ≠ 19 → a11_ j = a j := fun j h h2 h3 => by rw [ga11 j h h2 h3]; exact fa10 j h h2 h3
          have hK11 := hF11.1
          show pm_E _ _ _ 60 [(0, .ref 18), (1, .int (iI c)), (2, .int (iI x)), (3, .int (iI (s 32))), (4, .int (iI (s1_ 32)))] [.int (iI (s10_ 32))] _ _ _ _
          refine pm_e_ret pm_a208_60 rfl rfl rfl rfl rfl rfl rfl rfl ?_
          exact k _ s11_ a11_ (by omega) (by omega) hF11 (by omega) (by omega) fs11 fa11
      · skip
        show pm_E _ _ _ 30 [(0, .ref 18), (1, .int (iI c)), (2, .int (iI x)), (3, .int (iI (s 32)))] [] _ _ _ _
        refine pm_e_sim pm_a208_30 rfl ?_
        show pm_E _ _ _ 31 [(0, .ref 18), (1, .int (iI c)), (2, .int (iI x)), (3, .int (iI (s 32)))] [.ref 18] _ _ _ _
        refine pm_e_sim pm_a208_31 rfl ?_
        show pm_E _ _ _ 32 [(0, .ref 18), (1, .int (iI c)), (2, .int (iI x)), (3, .int (iI (s 32)))] [.int (iI (s 32)), .ref 18] _ _ _ _
        refine pm_e_sim pm_a208_32 rfl ?_
        show pm_E _ _ _ 33 [(0, .ref 18), (1, .int (iI c)), (2, .int (iI x)), (3, .int (iI (s 32)))] [.int (iI (s 32)), .int (iI (s 32)), .ref 18] _ _ _ _
        refine pm_i_callv (k := 18) (T2 := pm_mm205) pm_a208_33 rfl rfl rfl (mh_get (j := 0) hA rfl) ⟨Nat.le_of_ble_eq_true rfl, Nat.le_of_ble_eq_true rfl, rfl, by decide +kernel⟩ ?_
        show pm_E none _ _ 0 [(0, .ref 18), (1, .int (iI (s 32))), (2, .int (iI (s 32)))] [] _ _ _ _
        refine M_arrowF hA hF1 (by omega) ⟨by omega, by omega⟩ ⟨by omega, by omega⟩ (fun s12_ a12_ hF12 eK12 gs12 ga12 => ?_)
        have fs12 : ∀ j, j ≠ 32 → s12_ j = s j := fun j h => by rw [gs12 j h]; exact fs1 j h
        have fa12 : ∀ j, j ≠ 17 → j ≠ 18 → j ≠ 19 → a12_ j = a j := fun j h h2 h3 => by rw [ga12 j h h2 h3]; exact fa1 j h h2 h3
        have hK12 := hF12.1
        show pm_E _ _ _ 36 [(0, .ref 18), (1, .int (iI c)), (2, .int (iI x)), (3, .int (iI (s 32)))] [.int (iI (s1_ 32))] _ _ _ _
        refine pm_e_ret pm_a208_36 rfl rfl rfl rfl rfl rfl rfl rfl ?_
        exact k _ s12_ a12_ (by omega) (by omega) hF12 (by omega) (by omega) fs12 fa12
    · skip
      show pm_E _ _ _ 18 [(0, .ref 18), (1, .int (iI c)), (2, .int (iI x))] [] _ _ _ _
      refine pm_e_sim pm_a208_18 rfl ?_
      show pm_E _ _ _ 19 [(0, .ref 18), (1, .int (iI c)), (2, .int (iI x))] [.int (iI x)] _ _ _ _
      refine pm_e_ret pm_a208_19 rfl rfl rfl rfl rfl rfl rfl rfl ?_
      exact k _ s a (by omega) (by omega) hF (by omega) (by omega) (fun j _ => rfl) (fun j _ _ _ => rfl)
  · skip
    show pm_E _ _ _ 5 [(0, .ref 18), (1, .int (iI c)), (2, .int (iI x))] [] _ _ _ _
    refine pm_e_sim pm_a208_5 rfl ?_
    show pm_E _ _ _ 6 [(0, .ref 18), (1, .int (iI c)), (2, .int (iI x))] [.ref 18] _ _ _ _
    refine pm_e_sim pm_a208_6 rfl ?_
    show pm_E _ _ _ 7 [(0, .ref 18), (1, .int (iI c)), (2, .int (iI x))] [.int (iI x), .ref 18] _ _ _ _
    refine pm_e_sim pm_a208_7 rfl ?_
    show pm_E _ _ _ 8 [(0, .ref 18), (1, .int (iI c)), (2, .int (iI x))] [.int (iI x), .int (iI x), .ref 18] _ _ _ _
    refine pm_i_callv (k := 18) (T2 := pm_mm205) pm_a208_8 rfl rfl rfl (mh_get (j := 0) hA rfl) ⟨Nat.le_of_ble_eq_true rfl, Nat.le_of_ble_eq_true rfl, rfl, by decide +kernel⟩ ?_
    show pm_E none _ _ 0 [(0, .ref 18), (1, .int (iI x)), (2, .int (iI x))] [] _ _ _ _
    refine M_arrowF hA hF (by omega) ⟨by omega, by omega⟩ ⟨by omega, by omega⟩ (fun s13_ a13_ hF13 eK13 gs13 ga13 => ?_)
    have fs13 := gs13
    have fa13 := ga13
    have hK13 := hF13.1
    show pm_E _ _ _ 11 [(0, .ref 18), (1, .int (iI c)), (2, .int (iI x))] [.int (iI (s 32))] _ _ _ _
    refine pm_e_ret pm_a208_11 rfl rfl rfl rfl rfl rfl rfl rfl ?_
    exact k _ s13_ a13_ (by omega) (by omega) hF13 (by omega) (by omega) fs13 fa13
set_option maxHeartbeats 4000000 in
set_option maxRecDepth 100000 in
theorem M_unite_l {d : Nat} {A B : List va_E} {vl : Int64} {nm : Nat → Int64} {Q : Option Value → List va_E → Nat → Nat → Prop} {s : Nat → Int} {a0 : Nat → Int → Int} {x y : Int} (hA : A.length = 18) (hK : s 32 ≤ 9000) : ∀ (f : Nat) (w : Int) (a : Nat → Int → Int), 0 ≤ w → (∀ j, j ≠ 17 → j ≠ 20 → j ≠ 21 → a j = a0 j) → FI (a 17) (a 18) (a 19) (s 32) → (∀ j, 0 ≤ j → j < w → (0 ≤ a 20 j ∧ a 20 j < s 32) ∧ (0 ≤ a 21 j ∧ a 21 j < s 32)) → w ≤ 1 + cnb (a 17) (s 32).toNat → (∀ (a : Nat → Int → Int), (∀ j, j ≠ 17 → j ≠ 20 → j ≠ 21 → a j = a0 j) → FI (a 17) (a 18) (a 19) (s 32) → Q none (mh A s vl a nm B) 0 0) → 2 * (s 32 - cnb (a 17) (s 32).toNat) + w < (f : Int) → pm_E none (d + 1) pm_mm206 16 [(0, .ref 18), (1, .int (iI x)), (2, .int (iI y)), (3, .int (iI w))] [] (mh A s vl a nm B) 0 0 Q := by
  intro f
  induction f with
  | zero =>
    intro w a h0 fA hF hw hw2 k hf
    have hcb := cnb_le (B := a 17) (n := (s 32).toNat)
    have hK0 := hF.1
    exfalso; omega
  | succ f ih =>
    intro w a h0 fA hF hw hw2 k hf
    have hcb := cnb_le (B := a 17) (n := (s 32).toNat)
    have hK0 := hF.1
    have hw9 : 0 < w → _ := fun z => hw (w + -1) (by omega) (by omega)
    refine pm_e_sim pm_a206_16 rfl ?_
    show pm_E _ _ _ 17 [(0, .ref 18), (1, .int (iI x)), (2, .int (iI y)), (3, .int (iI w))] [.int (iI w)] _ _ _ _
    refine pm_i_le (t := 194) pm_a206_17 rfl ⟨by omega, by omega⟩ (fun h_1 => ?_) (fun h_1 => ?_)
    · skip
      show pm_E _ _ _ 194 [(0, .ref 18), (1, .int (iI x)), (2, .int (iI y)), (3, .int (iI w))] [] _ _ _ _
      refine pm_e_ret pm_a206_194 rfl rfl rfl rfl rfl rfl rfl rfl ?_
      exact k a fA hF
    · skip
      show pm_E _ _ _ 20 [(0, .ref 18), (1, .int (iI x)), (2, .int (iI y)), (3, .int (iI w))] [] _ _ _ _
      refine pm_e_inc (y := iI (w + (-1))) pm_a206_20 rfl (iI_add _ _) (by decide +kernel) rfl ?_
      show pm_E _ _ _ 23 [(0, .ref 18), (1, .int (iI x)), (2, .int (iI y)), (3, .int (iI (w + (-1))))] [] _ _ _ _
      replace hw9 := hw9 (by omega)
      refine pm_e_sim pm_a206_23 rfl ?_
      show pm_E _ _ _ 24 [(0, .ref 18), (1, .int (iI x)), (2, .int (iI y)), (3, .int (iI (w + (-1))))] [.ref 18] _ _ _ _
      refine pm_e_sim pm_a206_24 rfl ?_
      show pm_E _ _ _ 25 [(0, .ref 18), (1, .int (iI x)), (2, .int (iI y)), (3, .int (iI (w + (-1))))] [.ref 18, .ref 18] _ _ _ _
      refine pm_i_get pm_a206_25 rfl (mh_get (j := 0) hA rfl) rfl ?_
      show pm_E _ _ _ 28 [(0, .ref 18), (1, .int (iI x)), (2, .int (iI y)), (3, .int (iI (w + (-1))))] [.ref 38, .ref 18] _ _ _ _
      refine pm_e_sim pm_a206_28 rfl ?_
      show pm_E _ _ _ 29 [(0, .ref 18), (1, .int (iI x)), (2, .int (iI y)), (3, .int (iI (w + (-1))))] [.int (iI (w + (-1))), .ref 38, .ref 18] _ _ _ _
      refine pm_i_ald pm_a206_29 (mh_get (j := 20) hA rfl) (by omega) (by omega) ⟨by omega, by omega⟩ ?_
      show pm_E _ _ _ 30 [(0, .ref 18), (1, .int (iI x)), (2, .int (iI y)), (3, .int (iI (w + (-1))))] [.int (iI ((a 20) (w + (-1)))), .ref 18] _ _ _ _
      refine pm_i_callv (k := 18) (T2 := pm_mm207) pm_a206_30 rfl rfl rfl (mh_get (j := 0) hA rfl) ⟨Nat.le_of_ble_eq_true rfl, Nat.le_of_ble_eq_true rfl, rfl, by decide +kernel⟩ ?_
      show pm_E none _ _ 0 [(0, .ref 18), (1, .int (iI ((a 20) (w + (-1)))))] [] _ _ _ _
      refine M_root hA hF (by omega) (by omega) (by omega) (fun r1 p1 q1 z1 => ?_)
      have l1 := (hF.2.1 r1 p1 q1).2
      show pm_E _ _ _ 33 [(0, .ref 18), (1, .int (iI x)), (2, .int (iI y)), (3, .int (iI (w + (-1))))] [.int (iI r1)] _ _ _ _
      refine pm_e_sim pm_a206_33 rfl ?_
      show pm_E _ _ _ 35 [(0, .ref 18), (1, .int (iI x)), (2, .int (iI y)), (3, .int (iI (w + (-1)))), (4, .int (iI r1))] [] _ _ _ _
      refine pm_e_sim pm_a206_35 rfl ?_
      show pm_E _ _ _ 36 [(0, .ref 18), (1, .int (iI x)), (2, .int (iI y)), (3, .int (iI (w + (-1)))), (4, .int (iI r1))] [.ref 18] _ _ _ _
      refine pm_e_sim pm_a206_36 rfl ?_
      show pm_E _ _ _ 37 [(0, .ref 18), (1, .int (iI x)), (2, .int (iI y)), (3, .int (iI (w + (-1)))), (4, .int (iI r1))] [.ref 18, .ref 18] _ _ _ _
      refine pm_i_get pm_a206_37 rfl (mh_get (j := 0) hA rfl) rfl ?_
      show pm_E _ _ _ 40 [(0, .ref 18), (1, .int (iI x)), (2, .int (iI y)), (3, .int (iI (w + (-1)))), (4, .int (iI r1))] [.ref 39, .ref 18] _ _ _ _
      refine pm_e_sim pm_a206_40 rfl ?_
      show pm_E _ _ _ 41 [(0, .ref 18), (1, .int (iI x)), (2, .int (iI y)), (3, .int (iI (w + (-1)))), (4, .int (iI r1))] [.int (iI (w + (-1))), .ref 39, .ref 18] _ _ _ _
      refine pm_i_ald pm_a206_41 (mh_get (j := 21) hA rfl) (by omega) (by omega) ⟨by omega, by omega⟩ ?_
      show pm_E _ _ _ 42 [(0, .ref 18), (1, .int (iI x)), (2, .int (iI y)), (3, .int (iI (w + (-1)))), (4, .int (iI r1))] [.int (iI ((a 21) (w + (-1)))), .ref 18] _ _ _ _
      refine pm_i_callv (k := 18) (T2 := pm_mm207) pm_a206_42 rfl rfl rfl (mh_get (j := 0) hA rfl) ⟨Nat.le_of_ble_eq_true rfl, Nat.le_of_ble_eq_true rfl, rfl, by decide +kernel⟩ ?_
      show pm_E none _ _ 0 [(0, .ref 18), (1, .int (iI ((a 21) (w + (-1)))))] [] _ _ _ _
      refine M_root hA hF (by omega) (by omega) (by omega) (fun r2 p2 q2 z2 => ?_)
      have l2 := (hF.2.1 r2 p2 q2).2
      show pm_E _ _ _ 45 [(0, .ref 18), (1, .int (iI x)), (2, .int (iI y)), (3, .int (iI (w + (-1)))), (4, .int (iI r1))] [.int (iI r2)] _ _ _ _
      refine pm_e_sim pm_a206_45 rfl ?_
      show pm_E _ _ _ 47 [(0, .ref 18), (1, .int (iI x)), (2, .int (iI y)), (3, .int (iI (w + (-1)))), (4, .int (iI r1)), (5, .int (iI r2))] [] _ _ _ _
      refine pm_e_sim pm_a206_47 rfl ?_
      show pm_E _ _ _ 49 [(0, .ref 18), (1, .int (iI x)), (2, .int (iI y)), (3, .int (iI (w + (-1)))), (4, .int (iI r1)), (5, .int (iI r2))] [.int (iI r1)] _ _ _ _
      refine pm_e_sim pm_a206_49 rfl ?_
      show pm_E _ _ _ 51 [(0, .ref 18), (1, .int (iI x)), (2, .int (iI y)), (3, .int (iI (w + (-1)))), (4, .int (iI r1)), (5, .int (iI r2))] [.int (iI r2), .int (iI r1)] _ _ _ _
      refine pm_c_eq (t := 191) pm_a206_51 rfl ⟨by omega, by omega⟩ ⟨by omega, by omega⟩ (fun h_2 => ?_) (fun h_2 => ?_)
      · skip
        show pm_E _ _ _ 191 [(0, .ref 18), (1, .int (iI x)), (2, .int (iI y)), (3, .int (iI (w + (-1)))), (4, .int (iI r1)), (5, .int (iI r2))] [] _ _ _ _
        refine pm_e_goto pm_a206_191 rfl ?_
        show pm_E _ _ _ 16 [(0, .ref 18), (1, .int (iI x)), (2, .int (iI y)), (3, .int (iI (w + (-1)))), (4, .int (iI r1)), (5, .int (iI r2))] [] _ _ _ _
        show pm_E _ _ _ 16 ([(0, .ref 18), (1, .int (iI x)), (2, .int (iI y)), (3, .int (iI (w + (-1))))] ++ [(4, .int (iI r1)), (5, .int (iI r2))]) [] _ _ _ _
        refine pm_e_more [(4, .int (iI r1)), (5, .int (iI r2))] (show ([0, 1, 2, 3, 4, 5] : List Nat).Nodup from by decide) ?_
        exact ih (w + -1) a (by omega) fA hF (fun j z y => hw j z (by omega)) (by omega) k (by omega)
      · skip
        show pm_E _ _ _ 54 [(0, .ref 18), (1, .int (iI x)), (2, .int (iI y)), (3, .int (iI (w + (-1)))), (4, .int (iI r1)), (5, .int (iI r2))] [] _ _ _ _
        refine pm_e_sim pm_a206_54 rfl ?_
        show pm_E _ _ _ 55 [(0, .ref 18), (1, .int (iI x)), (2, .int (iI y)), (3, .int (iI (w + (-1)))), (4, .int (iI r1)), (5, .int (iI r2))] [.ref 18] _ _ _ _
        refine pm_i_get pm_a206_55 rfl (mh_get (j := 0) hA rfl) rfl ?_
        show pm_E _ _ _ 58 [(0, .ref 18), (1, .int (iI x)), (2, .int (iI y)), (3, .int (iI (w + (-1)))), (4, .int (iI r1)), (5, .int (iI r2))] [.ref 36] _ _ _ _
        refine pm_e_sim pm_a206_58 rfl ?_
        show pm_E _ _ _ 60 [(0, .ref 18), (1, .int (iI x)), (2, .int (iI y)), (3, .int (iI (w + (-1)))), (4, .int (iI r1)), (5, .int (iI r2))] [.int (iI r1), .ref 36] _ _ _ _
        refine pm_i_ald pm_a206_60 (mh_get (j := 18) hA rfl) (by omega) (by omega) ⟨by omega, by omega⟩ ?_
        show pm_E _ _ _ 61 [(0, .ref 18), (1, .int (iI x)), (2, .int (iI y)), (3, .int (iI (w + (-1)))), (4, .int (iI r1)), (5, .int (iI r2))] [.int (iI ((a 18) (r1)))] _ _ _ _
        refine pm_e_sim pm_a206_61 rfl ?_
        refine pm_e_top (y := iI (-4)) (by decide +kernel) ?_
        show pm_E _ _ _ 63 [(0, .ref 18), (1, .int (iI x)), (2, .int (iI y)), (3, .int (iI (w + (-1)))), (4, .int (iI r1)), (5, .int (iI r2))] [.int (iI (-4)), .int (iI ((a 18) (r1)))] _ _ _ _
        refine pm_c_eq (t := 82) pm_a206_63 rfl ⟨by omega, by omega⟩ ⟨by omega, by omega⟩ (fun h_3 => ?_) (fun h_3 => ?_)
        · skip
          show pm_E _ _ _ 82 [(0, .ref 18), (1, .int (iI x)), (2, .int (iI y)), (3, .int (iI (w + (-1)))), (4, .int (iI r1)), (5, .int (iI r2))] [] _ _ _ _
          refine pm_e_sim pm_a206_82 rfl ?_
          refine pm_e_top (y := iI 0) (by decide +kernel) ?_
          show pm_E _ _ _ 83 [(0, .ref 18), (1, .int (iI x)), (2, .int (iI y)), (3, .int (iI (w + (-1)))), (4, .int (iI r1)), (5, .int (iI r2))] [.int (iI 0)] _ _ _ _
          refine pm_e_sim pm_a206_83 rfl ?_
          show pm_E _ _ _ 85 [(0, .ref 18), (1, .int (iI x)), (2, .int (iI y)), (3, .int (iI (w + (-1)))), (4, .int (iI r1)), (5, .int (iI r2)), (6, .int (iI 0))] [] _ _ _ _
          refine pm_e_sim pm_a206_85 rfl ?_
          show pm_E _ _ _ 86 [(0, .ref 18), (1, .int (iI x)), (2, .int (iI y)), (3, .int (iI (w + (-1)))), (4, .int (iI r1)), (5, .int (iI r2)), (6, .int (iI 0))] [.ref 18] _ _ _ _
          refine pm_i_get pm_a206_86 rfl (mh_get (j := 0) hA rfl) rfl ?_
          show pm_E _ _ _ 89 [(0, .ref 18), (1, .int (iI x)), (2, .int (iI y)), (3, .int (iI (w + (-1)))), (4, .int (iI r1)), (5, .int (iI r2)), (6, .int (iI 0))] [.ref 36] _ _ _ _
          refine pm_e_sim pm_a206_89 rfl ?_
          show pm_E _ _ _ 91 [(0, .ref 18), (1, .int (iI x)), (2, .int (iI y)), (3, .int (iI (w + (-1)))), (4, .int (iI r1)), (5, .int (iI r2)), (6, .int (iI 0))] [.int (iI r1), .ref 36] _ _ _ _
          refine pm_i_ald pm_a206_91 (mh_get (j := 18) hA rfl) (by omega) (by omega) ⟨by omega, by omega⟩ ?_
          show pm_E _ _ _ 92 [(0, .ref 18), (1, .int (iI x)), (2, .int (iI y)), (3, .int (iI (w + (-1)))), (4, .int (iI r1)), (5, .int (iI r2)), (6, .int (iI 0))] [.int (iI ((a 18) (r1)))] _ _ _ _
          refine pm_e_sim pm_a206_92 rfl ?_
          refine pm_e_top (y := iI (-4)) (by decide +kernel) ?_
          show pm_E _ _ _ 94 [(0, .ref 18), (1, .int (iI x)), (2, .int (iI y)), (3, .int (iI (w + (-1)))), (4, .int (iI r1)), (5, .int (iI r2)), (6, .int (iI 0))] [.int (iI (-4)), .int (iI ((a 18) (r1)))] _ _ _ _
          refine pm_c_ne (t := 102) pm_a206_94 rfl ⟨by omega, by omega⟩ ⟨by omega, by omega⟩ (fun h_4 => ?_) (fun h_4 => ?_)
          · skip
            show pm_E _ _ _ 102 [(0, .ref 18), (1, .int (iI x)), (2, .int (iI y)), (3, .int (iI (w + (-1)))), (4, .int (iI r1)), (5, .int (iI r2)), (6, .int (iI 0))] [] _ _ _ _
            refine pm_e_sim pm_a206_102 rfl ?_
            show pm_E _ _ _ 104 [(0, .ref 18), (1, .int (iI x)), (2, .int (iI y)), (3, .int (iI (w + (-1)))), (4, .int (iI r1)), (5, .int (iI r2)), (6, .int (iI 0))] [.int (iI r2)] _ _ _ _
            refine pm_e_sim pm_a206_104 rfl ?_
            show pm_E _ _ _ 106 [(0, .ref 18), (1, .int (iI x)), (2, .int (iI y)), (3, .int (iI (w + (-1)))), (4, .int (iI r1)), (5, .int (iI r2)), (6, .int (iI 0)), (7, .int (iI r2))] [] _ _ _ _
            refine pm_e_sim pm_a206_106 rfl ?_
            show pm_E _ _ _ 107 [(0, .ref 18), (1, .int (iI x)), (2, .int (iI y)), (3, .int (iI (w + (-1)))), (4, .int (iI r1)), (5, .int (iI r2)), (6, .int (iI 0)), (7, .int (iI r2))] [.ref 18] _ _ _ _
            refine pm_i_get pm_a206_107 rfl (mh_get (j := 0) hA rfl) rfl ?_
            show pm_E _ _ _ 110 [(0, .ref 18), (1, .int (iI x)), (2, .int (iI y)), (3, .int (iI (w + (-1)))), (4, .int (iI r1)), (5, .int (iI r2)), (6, .int (iI 0)), (7, .int (iI r2))] [.ref 35] _ _ _ _
            refine pm_e_sim pm_a206_110 rfl ?_
            show pm_E _ _ _ 112 [(0, .ref 18), (1, .int (iI x)), (2, .int (iI y)), (3, .int (iI (w + (-1)))), (4, .int (iI r1)), (5, .int (iI r2)), (6, .int (iI 0)), (7, .int (iI r2))] [.int (iI r2), .ref 35] _ _ _ _
            refine pm_e_sim pm_a206_112 rfl ?_
            show pm_E _ _ _ 114 [(0, .ref 18), (1, .int (iI x)), (2, .int (iI y)), (3, .int (iI (w + (-1)))), (4, .int (iI r1)), (5, .int (iI r2)), (6, .int (iI 0)), (7, .int (iI r2))] [.int (iI r2), .int (iI r2), .ref 35] _ _ _ _
            refine pm_e_sim pm_a206_114 rfl ?_
            show pm_E _ _ _ 116 [(0, .ref 18), (1, .int (iI x)), (2, .int (iI y)), (3, .int (iI (w + (-1)))), (4, .int (iI r1)), (5, .int (iI r2)), (6, .int (iI 0)), (7, .int (iI r2))] [.int (iI r1), .int (iI r2), .int (iI r2), .ref 35] _ _ _ _
            refine pm_c_ne (t := 124) pm_a206_116 rfl ⟨by omega, by omega⟩ ⟨by omega, by omega⟩ (fun h_5 => ?_) (fun h_5 => ?_)
            · skip
              show pm_E _ _ _ 124 [(0, .ref 18), (1, .int (iI x)), (2, .int (iI y)), (3, .int (iI (w + (-1)))), (4, .int (iI r1)), (5, .int (iI r2)), (6, .int (iI 0)), (7, .int (iI r2))] [.int (iI r2), .ref 35] _ _ _ _
              refine pm_e_sim pm_a206_124 rfl ?_
              show pm_E _ _ _ 126 [(0, .ref 18), (1, .int (iI x)), (2, .int (iI y)), (3, .int (iI (w + (-1)))), (4, .int (iI r1)), (5, .int (iI r2)), (6, .int (iI 0)), (7, .int (iI r2))] [.int (iI r1), .int (iI r2), .ref 35] _ _ _ _
              refine pm_i_ast pm_a206_126 (mh_get (j := 17) hA rfl) (by omega) (by omega) ⟨by omega, by omega⟩ (ma_17 hA _) ?_
              show pm_E _ _ _ 127 [(0, .ref 18), (1, .int (iI x)), (2, .int (iI y)), (3, .int (iI (w + (-1)))), (4, .int (iI r1)), (5, .int (iI r2)), (6, .int (iI 0)), (7, .int (iI r2))] [] _ _ _ _
              refine pm_e_sim pm_a206_127 rfl ?_
              show pm_E _ _ _ 129 [(0, .ref 18), (1, .int (iI x)), (2, .int (iI y)), (3, .int (iI (w + (-1)))), (4, .int (iI r1)), (5, .int (iI r2)), (6, .int (iI 0)), (7, .int (iI r2))] [.int (iI 0)] _ _ _ _
              refine pm_e_ift pm_a206_129 rfl (by decide +kernel) ?_
              show pm_E _ _ _ 191 [(0, .ref 18), (1, .int (iI x)), (2, .int (iI y)), (3, .int (iI (w + (-1)))), (4, .int (iI r1)), (5, .int (iI r2)), (6, .int (iI 0)), (7, .int (iI r2))] [] _ _ _ _
              refine pm_e_goto pm_a206_191 rfl ?_
              show pm_E _ _ _ 16 [(0, .ref 18), (1, .int (iI x)), (2, .int (iI y)), (3, .int (iI (w + (-1)))), (4, .int (iI r1)), (5, .int (iI r2)), (6, .int (iI 0)), (7, .int (iI r2))] [] _ _ _ _
              show pm_E _ _ _ 16 ([(0, .ref 18), (1, .int (iI x)), (2, .int (iI y)), (3, .int (iI (w + (-1))))] ++ [(4, .int (iI r1)), (5, .int (iI r2)), (6, .int (iI 0)), (7, .int (iI r2))]) [] _ _ _ _
              refine pm_e_more [(4, .int (iI r1)), (5, .int (iI r2)), (6, .int (iI 0)), (7, .int (iI r2))] (show ([0, 1, 2, 3, 4, 5, 6, 7] : List Nat).Nodup from by decide) ?_
              have hF2 := FI_link hF (g := r2) (y := r1) (by omega) (by omega) (by omega) (by omega) (by omega)
              have hcn := cnb_up (B := a 17) (g := r2) (y := r1) (by omega) (by omega) (n := (s 32).toNat) (by omega) (by omega)
              have hcl := cnb_le (B := updI (a 17) r2 r1) (n := (s 32).toNat)
              refine ih (w + -1) _ (by omega) (fun j h1 h2 h3 => by simp [updA, h1, fA j h1 h2 h3]) hF2 (fun j z y => hw j z (by omega)) ?_ k ?_
              · show w + -1 ≤ 1 + cnb (updI (a 17) r2 r1) _; omega
              · show 2 * (s 32 - cnb (updI (a 17) r2 r1) _) + (w + -1) < _; omega
            · skip
              show pm_E _ _ _ 119 [(0, .ref 18), (1, .int (iI x)), (2, .int (iI y)), (3, .int (iI (w + (-1)))), (4, .int (iI r1)), (5, .int (iI r2)), (6, .int (iI 0)), (7, .int (iI r2))] [.int (iI r2), .ref 35] _ _ _ _
              refine pm_e_sim pm_a206_119 rfl ?_
              show pm_E _ _ _ 121 [(0, .ref 18), (1, .int (iI x)), (2, .int (iI y)), (3, .int (iI (w + (-1)))), (4, .int (iI r1)), (5, .int (iI r2)), (6, .int (iI 0)), (7, .int (iI r2))] [.int (iI r2), .int (iI r2), .ref 35] _ _ _ _
              refine pm_e_goto pm_a206_121 rfl ?_
              show pm_E _ _ _ 126 [(0, .ref 18), (1, .int (iI x)), (2, .int (iI y)), (3, .int (iI (w + (-1)))), (4, .int (iI r1)), (5, .int (iI r2)), (6, .int (iI 0)), (7, .int (iI r2))] [.int (iI r2), .int (iI r2), .ref 35] _ _ _ _
              refine pm_i_ast pm_a206_126 (mh_get (j := 17) hA rfl) (by omega) (by omega) ⟨by omega, by omega⟩ (ma_17 hA _) ?_
              show pm_E _ _ _ 127 [(0, .ref 18), (1, .int (iI x)), (2, .int (iI y)), (3, .int (iI (w + (-1)))), (4, .int (iI r1)), (5, .int (iI r2)), (6, .int (iI 0)), (7, .int (iI r2))] [] _ _ _ _
              refine pm_e_sim pm_a206_127 rfl ?_
              show pm_E _ _ _ 129 [(0, .ref 18), (1, .int (iI x)), (2, .int (iI y)), (3, .int (iI (w + (-1)))), (4, .int (iI r1)), (5, .int (iI r2)), (6, .int (iI 0)), (7, .int (iI r2))] [.int (iI 0)] _ _ _ _
              refine pm_e_ift pm_a206_129 rfl (by decide +kernel) ?_
              show pm_E _ _ _ 191 [(0, .ref 18), (1, .int (iI x)), (2, .int (iI y)), (3, .int (iI (w + (-1)))), (4, .int (iI r1)), (5, .int (iI r2)), (6, .int (iI 0)), (7, .int (iI r2))] [] _ _ _ _
              refine pm_e_goto pm_a206_191 rfl ?_
              show pm_E _ _ _ 16 [(0, .ref 18), (1, .int (iI x)), (2, .int (iI y)), (3, .int (iI (w + (-1)))), (4, .int (iI r1)), (5, .int (iI r2)), (6, .int (iI 0)), (7, .int (iI r2))] [] _ _ _ _
              show pm_E _ _ _ 16 ([(0, .ref 18), (1, .int (iI x)), (2, .int (iI y)), (3, .int (iI (w + (-1))))] ++ [(4, .int (iI r1)), (5, .int (iI r2)), (6, .int (iI 0)), (7, .int (iI r2))]) [] _ _ _ _
              refine pm_e_more [(4, .int (iI r1)), (5, .int (iI r2)), (6, .int (iI 0)), (7, .int (iI r2))] (show ([0, 1, 2, 3, 4, 5, 6, 7] : List Nat).Nodup from by decide) ?_
              have hF2 := FI_link hF (g := r2) (y := r2) (by omega) (by omega) (by omega) (by omega) (by omega)
              have hcn := cnb_up (B := a 17) (g := r2) (y := r2) (by omega) (by omega) (n := (s 32).toNat) (by omega) (by omega)
              have hcl := cnb_le (B := updI (a 17) r2 r2) (n := (s 32).toNat)
              refine ih (w + -1) _ (by omega) (fun j h1 h2 h3 => by simp [updA, h1, fA j h1 h2 h3]) hF2 (fun j z y => hw j z (by omega)) ?_ k ?_
              · show w + -1 ≤ 1 + cnb (updI (a 17) r2 r2) _; omega
              · show 2 * (s 32 - cnb (updI (a 17) r2 r2) _) + (w + -1) < _; omega
          · skip
            show pm_E _ _ _ 97 [(0, .ref 18), (1, .int (iI x)), (2, .int (iI y)), (3, .int (iI (w + (-1)))), (4, .int (iI r1)), (5, .int (iI r2)), (6, .int (iI 0))] [] _ _ _ _
            refine pm_e_sim pm_a206_97 rfl ?_
            show pm_E _ _ _ 99 [(0, .ref 18), (1, .int (iI x)), (2, .int (iI y)), (3, .int (iI (w + (-1)))), (4, .int (iI r1)), (5, .int (iI r2)), (6, .int (iI 0))] [.int (iI r1)] _ _ _ _
            refine pm_e_goto pm_a206_99 rfl ?_
            show pm_E _ _ _ 104 [(0, .ref 18), (1, .int (iI x)), (2, .int (iI y)), (3, .int (iI (w + (-1)))), (4, .int (iI r1)), (5, .int (iI r2)), (6, .int (iI 0))] [.int (iI r1)] _ _ _ _
            refine pm_e_sim pm_a206_104 rfl ?_
            show pm_E _ _ _ 106 [(0, .ref 18), (1, .int (iI x)), (2, .int (iI y)), (3, .int (iI (w + (-1)))), (4, .int (iI r1)), (5, .int (iI r2)), (6, .int (iI 0)), (7, .int (iI r1))] [] _ _ _ _
            refine pm_e_sim pm_a206_106 rfl ?_
            show pm_E _ _ _ 107 [(0, .ref 18), (1, .int (iI x)), (2, .int (iI y)), (3, .int (iI (w + (-1)))), (4, .int (iI r1)), (5, .int (iI r2)), (6, .int (iI 0)), (7, .int (iI r1))] [.ref 18] _ _ _ _
            refine pm_i_get pm_a206_107 rfl (mh_get (j := 0) hA rfl) rfl ?_
            show pm_E _ _ _ 110 [(0, .ref 18), (1, .int (iI x)), (2, .int (iI y)), (3, .int (iI (w + (-1)))), (4, .int (iI r1)), (5, .int (iI r2)), (6, .int (iI 0)), (7, .int (iI r1))] [.ref 35] _ _ _ _
            refine pm_e_sim pm_a206_110 rfl ?_
            show pm_E _ _ _ 112 [(0, .ref 18), (1, .int (iI x)), (2, .int (iI y)), (3, .int (iI (w + (-1)))), (4, .int (iI r1)), (5, .int (iI r2)), (6, .int (iI 0)), (7, .int (iI r1))] [.int (iI r1), .ref 35] _ _ _ _
            refine pm_e_sim pm_a206_112 rfl ?_
            show pm_E _ _ _ 114 [(0, .ref 18), (1, .int (iI x)), (2, .int (iI y)), (3, .int (iI (w + (-1)))), (4, .int (iI r1)), (5, .int (iI r2)), (6, .int (iI 0)), (7, .int (iI r1))] [.int (iI r1), .int (iI r1), .ref 35] _ _ _ _
            refine pm_e_sim pm_a206_114 rfl ?_
            show pm_E _ _ _ 116 [(0, .ref 18), (1, .int (iI x)), (2, .int (iI y)), (3, .int (iI (w + (-1)))), (4, .int (iI r1)), (5, .int (iI r2)), (6, .int (iI 0)), (7, .int (iI r1))] [.int (iI r1), .int (iI r1), .int (iI r1), .ref 35] _ _ _ _
            refine pm_c_ne (t := 124) pm_a206_116 rfl ⟨by omega, by omega⟩ ⟨by omega, by omega⟩ (fun h_6 => ?_) (fun h_6 => ?_)
            · skip
              show pm_E _ _ _ 124 [(0, .ref 18), (1, .int (iI x)), (2, .int (iI y)), (3, .int (iI (w + (-1)))), (4, .int (iI r1)), (5, .int (iI r2)), (6, .int (iI 0)), (7, .int (iI r1))] [.int (iI r1), .ref 35] _ _ _ _
              refine pm_e_sim pm_a206_124 rfl ?_
              show pm_E _ _ _ 126 [(0, .ref 18), (1, .int (iI x)), (2, .int (iI y)), (3, .int (iI (w + (-1)))), (4, .int (iI r1)), (5, .int (iI r2)), (6, .int (iI 0)), (7, .int (iI r1))] [.int (iI r1), .int (iI r1), .ref 35] _ _ _ _
              refine pm_i_ast pm_a206_126 (mh_get (j := 17) hA rfl) (by omega) (by omega) ⟨by omega, by omega⟩ (ma_17 hA _) ?_
              show pm_E _ _ _ 127 [(0, .ref 18), (1, .int (iI x)), (2, .int (iI y)), (3, .int (iI (w + (-1)))), (4, .int (iI r1)), (5, .int (iI r2)), (6, .int (iI 0)), (7, .int (iI r1))] [] _ _ _ _
              refine pm_e_sim pm_a206_127 rfl ?_
              show pm_E _ _ _ 129 [(0, .ref 18), (1, .int (iI x)), (2, .int (iI y)), (3, .int (iI (w + (-1)))), (4, .int (iI r1)), (5, .int (iI r2)), (6, .int (iI 0)), (7, .int (iI r1))] [.int (iI 0)] _ _ _ _
              refine pm_e_ift pm_a206_129 rfl (by decide +kernel) ?_
              show pm_E _ _ _ 191 [(0, .ref 18), (1, .int (iI x)), (2, .int (iI y)), (3, .int (iI (w + (-1)))), (4, .int (iI r1)), (5, .int (iI r2)), (6, .int (iI 0)), (7, .int (iI r1))] [] _ _ _ _
              refine pm_e_goto pm_a206_191 rfl ?_
              show pm_E _ _ _ 16 [(0, .ref 18), (1, .int (iI x)), (2, .int (iI y)), (3, .int (iI (w + (-1)))), (4, .int (iI r1)), (5, .int (iI r2)), (6, .int (iI 0)), (7, .int (iI r1))] [] _ _ _ _
              show pm_E _ _ _ 16 ([(0, .ref 18), (1, .int (iI x)), (2, .int (iI y)), (3, .int (iI (w + (-1))))] ++ [(4, .int (iI r1)), (5, .int (iI r2)), (6, .int (iI 0)), (7, .int (iI r1))]) [] _ _ _ _
              refine pm_e_more [(4, .int (iI r1)), (5, .int (iI r2)), (6, .int (iI 0)), (7, .int (iI r1))] (show ([0, 1, 2, 3, 4, 5, 6, 7] : List Nat).Nodup from by decide) ?_
              have hF2 := FI_link hF (g := r1) (y := r1) (by omega) (by omega) (by omega) (by omega) (by omega)
              have hcn := cnb_up (B := a 17) (g := r1) (y := r1) (by omega) (by omega) (n := (s 32).toNat) (by omega) (by omega)
              have hcl := cnb_le (B := updI (a 17) r1 r1) (n := (s 32).toNat)
              refine ih (w + -1) _ (by omega) (fun j h1 h2 h3 => by simp [updA, h1, fA j h1 h2 h3]) hF2 (fun j z y => hw j z (by omega)) ?_ k ?_
              · show w + -1 ≤ 1 + cnb (updI (a 17) r1 r1) _; omega
              · show 2 * (s 32 - cnb (updI (a 17) r1 r1) _) + (w + -1) < _; omega
            · skip
              show pm_E _ _ _ 119 [(0, .ref 18), (1, .int (iI x)), (2, .int (iI y)), (3, .int (iI (w + (-1)))), (4, .int (iI r1)), (5, .int (iI r2)), (6, .int (iI 0)), (7, .int (iI r1))] [.int (iI r1), .ref 35] _ _ _ _
              refine pm_e_sim pm_a206_119 rfl ?_
              show pm_E _ _ _ 121 [(0, .ref 18), (1, .int (iI x)), (2, .int (iI y)), (3, .int (iI (w + (-1)))), (4, .int (iI r1)), (5, .int (iI r2)), (6, .int (iI 0)), (7, .int (iI r1))] [.int (iI r2), .int (iI r1), .ref 35] _ _ _ _
              refine pm_e_goto pm_a206_121 rfl ?_
              show pm_E _ _ _ 126 [(0, .ref 18), (1, .int (iI x)), (2, .int (iI y)), (3, .int (iI (w + (-1)))), (4, .int (iI r1)), (5, .int (iI r2)), (6, .int (iI 0)), (7, .int (iI r1))] [.int (iI r2), .int (iI r1), .ref 35] _ _ _ _
              refine pm_i_ast pm_a206_126 (mh_get (j := 17) hA rfl) (by omega) (by omega) ⟨by omega, by omega⟩ (ma_17 hA _) ?_
              show pm_E _ _ _ 127 [(0, .ref 18), (1, .int (iI x)), (2, .int (iI y)), (3, .int (iI (w + (-1)))), (4, .int (iI r1)), (5, .int (iI r2)), (6, .int (iI 0)), (7, .int (iI r1))] [] _ _ _ _
              refine pm_e_sim pm_a206_127 rfl ?_
              show pm_E _ _ _ 129 [(0, .ref 18), (1, .int (iI x)), (2, .int (iI y)), (3, .int (iI (w + (-1)))), (4, .int (iI r1)), (5, .int (iI r2)), (6, .int (iI 0)), (7, .int (iI r1))] [.int (iI 0)] _ _ _ _
              refine pm_e_ift pm_a206_129 rfl (by decide +kernel) ?_
              show pm_E _ _ _ 191 [(0, .ref 18), (1, .int (iI x)), (2, .int (iI y)), (3, .int (iI (w + (-1)))), (4, .int (iI r1)), (5, .int (iI r2)), (6, .int (iI 0)), (7, .int (iI r1))] [] _ _ _ _
              refine pm_e_goto pm_a206_191 rfl ?_
              show pm_E _ _ _ 16 [(0, .ref 18), (1, .int (iI x)), (2, .int (iI y)), (3, .int (iI (w + (-1)))), (4, .int (iI r1)), (5, .int (iI r2)), (6, .int (iI 0)), (7, .int (iI r1))] [] _ _ _ _
              show pm_E _ _ _ 16 ([(0, .ref 18), (1, .int (iI x)), (2, .int (iI y)), (3, .int (iI (w + (-1))))] ++ [(4, .int (iI r1)), (5, .int (iI r2)), (6, .int (iI 0)), (7, .int (iI r1))]) [] _ _ _ _
              refine pm_e_more [(4, .int (iI r1)), (5, .int (iI r2)), (6, .int (iI 0)), (7, .int (iI r1))] (show ([0, 1, 2, 3, 4, 5, 6, 7] : List Nat).Nodup from by decide) ?_
              have hF2 := FI_link hF (g := r1) (y := r2) (by omega) (by omega) (by omega) (by omega) (by omega)
              have hcn := cnb_up (B := a 17) (g := r1) (y := r2) (by omega) (by omega) (n := (s 32).toNat) (by omega) (by omega)
              have hcl := cnb_le (B := updI (a 17) r1 r2) (n := (s 32).toNat)
              refine ih (w + -1) _ (by omega) (fun j h1 h2 h3 => by simp [updA, h1, fA j h1 h2 h3]) hF2 (fun j z y => hw j z (by omega)) ?_ k ?_
              · show w + -1 ≤ 1 + cnb (updI (a 17) r1 r2) _; omega
              · show 2 * (s 32 - cnb (updI (a 17) r1 r2) _) + (w + -1) < _; omega
        · skip
          show pm_E _ _ _ 66 [(0, .ref 18), (1, .int (iI x)), (2, .int (iI y)), (3, .int (iI (w + (-1)))), (4, .int (iI r1)), (5, .int (iI r2))] [] _ _ _ _
          refine pm_e_sim pm_a206_66 rfl ?_
          show pm_E _ _ _ 67 [(0, .ref 18), (1, .int (iI x)), (2, .int (iI y)), (3, .int (iI (w + (-1)))), (4, .int (iI r1)), (5, .int (iI r2))] [.ref 18] _ _ _ _
          refine pm_i_get pm_a206_67 rfl (mh_get (j := 0) hA rfl) rfl ?_
          show pm_E _ _ _ 70 [(0, .ref 18), (1, .int (iI x)), (2, .int (iI y)), (3, .int (iI (w + (-1)))), (4, .int (iI r1)), (5, .int (iI r2))] [.ref 36] _ _ _ _
          refine pm_e_sim pm_a206_70 rfl ?_
          show pm_E _ _ _ 72 [(0, .ref 18), (1, .int (iI x)), (2, .int (iI y)), (3, .int (iI (w + (-1)))), (4, .int (iI r1)), (5, .int (iI r2))] [.int (iI r2), .ref 36] _ _ _ _
          refine pm_i_ald pm_a206_72 (mh_get (j := 18) hA rfl) (by omega) (by omega) ⟨by omega, by omega⟩ ?_
          show pm_E _ _ _ 73 [(0, .ref 18), (1, .int (iI x)), (2, .int (iI y)), (3, .int (iI (w + (-1)))), (4, .int (iI r1)), (5, .int (iI r2))] [.int (iI ((a 18) (r2)))] _ _ _ _
          refine pm_e_sim pm_a206_73 rfl ?_
          refine pm_e_top (y := iI (-4)) (by decide +kernel) ?_
          show pm_E _ _ _ 75 [(0, .ref 18), (1, .int (iI x)), (2, .int (iI y)), (3, .int (iI (w + (-1)))), (4, .int (iI r1)), (5, .int (iI r2))] [.int (iI (-4)), .int (iI ((a 18) (r2)))] _ _ _ _
          refine pm_c_eq (t := 82) pm_a206_75 rfl ⟨by omega, by omega⟩ ⟨by omega, by omega⟩ (fun h_7 => ?_) (fun h_7 => ?_)
          · skip
            show pm_E _ _ _ 82 [(0, .ref 18), (1, .int (iI x)), (2, .int (iI y)), (3, .int (iI (w + (-1)))), (4, .int (iI r1)), (5, .int (iI r2))] [] _ _ _ _
            refine pm_e_sim pm_a206_82 rfl ?_
            refine pm_e_top (y := iI 0) (by decide +kernel) ?_
            show pm_E _ _ _ 83 [(0, .ref 18), (1, .int (iI x)), (2, .int (iI y)), (3, .int (iI (w + (-1)))), (4, .int (iI r1)), (5, .int (iI r2))] [.int (iI 0)] _ _ _ _
            refine pm_e_sim pm_a206_83 rfl ?_
            show pm_E _ _ _ 85 [(0, .ref 18), (1, .int (iI x)), (2, .int (iI y)), (3, .int (iI (w + (-1)))), (4, .int (iI r1)), (5, .int (iI r2)), (6, .int (iI 0))] [] _ _ _ _
            refine pm_e_sim pm_a206_85 rfl ?_
            show pm_E _ _ _ 86 [(0, .ref 18), (1, .int (iI x)), (2, .int (iI y)), (3, .int (iI (w + (-1)))), (4, .int (iI r1)), (5, .int (iI r2)), (6, .int (iI 0))] [.ref 18] _ _ _ _
            refine pm_i_get pm_a206_86 rfl (mh_get (j := 0) hA rfl) rfl ?_
            show pm_E _ _ _ 89 [(0, .ref 18), (1, .int (iI x)), (2, .int (iI y)), (3, .int (iI (w + (-1)))), (4, .int (iI r1)), (5, .int (iI r2)), (6, .int (iI 0))] [.ref 36] _ _ _ _
            refine pm_e_sim pm_a206_89 rfl ?_
            show pm_E _ _ _ 91 [(0, .ref 18), (1, .int (iI x)), (2, .int (iI y)), (3, .int (iI (w + (-1)))), (4, .int (iI r1)), (5, .int (iI r2)), (6, .int (iI 0))] [.int (iI r1), .ref 36] _ _ _ _
            refine pm_i_ald pm_a206_91 (mh_get (j := 18) hA rfl) (by omega) (by omega) ⟨by omega, by omega⟩ ?_
            show pm_E _ _ _ 92 [(0, .ref 18), (1, .int (iI x)), (2, .int (iI y)), (3, .int (iI (w + (-1)))), (4, .int (iI r1)), (5, .int (iI r2)), (6, .int (iI 0))] [.int (iI ((a 18) (r1)))] _ _ _ _
            refine pm_e_sim pm_a206_92 rfl ?_
            refine pm_e_top (y := iI (-4)) (by decide +kernel) ?_
            show pm_E _ _ _ 94 [(0, .ref 18), (1, .int (iI x)), (2, .int (iI y)), (3, .int (iI (w + (-1)))), (4, .int (iI r1)), (5, .int (iI r2)), (6, .int (iI 0))] [.int (iI (-4)), .int (iI ((a 18) (r1)))] _ _ _ _
            refine pm_c_ne (t := 102) pm_a206_94 rfl ⟨by omega, by omega⟩ ⟨by omega, by omega⟩ (fun h_8 => ?_) (fun h_8 => ?_)
            · skip
              show pm_E _ _ _ 102 [(0, .ref 18), (1, .int (iI x)), (2, .int (iI y)), (3, .int (iI (w + (-1)))), (4, .int (iI r1)), (5, .int (iI r2)), (6, .int (iI 0))] [] _ _ _ _
              refine pm_e_sim pm_a206_102 rfl ?_
              show pm_E _ _ _ 104 [(0, .ref 18), (1, .int (iI x)), (2, .int (iI y)), (3, .int (iI (w + (-1)))), (4, .int (iI r1)), (5, .int (iI r2)), (6, .int (iI 0))] [.int (iI r2)] _ _ _ _
              refine pm_e_sim pm_a206_104 rfl ?_
              show pm_E _ _ _ 106 [(0, .ref 18), (1, .int (iI x)), (2, .int (iI y)), (3, .int (iI (w + (-1)))), (4, .int (iI r1)), (5, .int (iI r2)), (6, .int (iI 0)), (7, .int (iI r2))] [] _ _ _ _
              refine pm_e_sim pm_a206_106 rfl ?_
              show pm_E _ _ _ 107 [(0, .ref 18), (1, .int (iI x)), (2, .int (iI y)), (3, .int (iI (w + (-1)))), (4, .int (iI r1)), (5, .int (iI r2)), (6, .int (iI 0)), (7, .int (iI r2))] [.ref 18] _ _ _ _
              refine pm_i_get pm_a206_107 rfl (mh_get (j := 0) hA rfl) rfl ?_
              show pm_E _ _ _ 110 [(0, .ref 18), (1, .int (iI x)), (2, .int (iI y)), (3, .int (iI (w + (-1)))), (4, .int (iI r1)), (5, .int (iI r2)), (6, .int (iI 0)), (7, .int (iI r2))] [.ref 35] _ _ _ _
              refine pm_e_sim pm_a206_110 rfl ?_
              show pm_E _ _ _ 112 [(0, .ref 18), (1, .int (iI x)), (2, .int (iI y)), (3, .int (iI (w + (-1)))), (4, .int (iI r1)), (5, .int (iI r2)), (6, .int (iI 0)), (7, .int (iI r2))] [.int (iI r2), .ref 35] _ _ _ _
              refine pm_e_sim pm_a206_112 rfl ?_
              show pm_E _ _ _ 114 [(0, .ref 18), (1, .int (iI x)), (2, .int (iI y)), (3, .int (iI (w + (-1)))), (4, .int (iI r1)), (5, .int (iI r2)), (6, .int (iI 0)), (7, .int (iI r2))] [.int (iI r2), .int (iI r2), .ref 35] _ _ _ _
              refine pm_e_sim pm_a206_114 rfl ?_
              show pm_E _ _ _ 116 [(0, .ref 18), (1, .int (iI x)), (2, .int (iI y)), (3, .int (iI (w + (-1)))), (4, .int (iI r1)), (5, .int (iI r2)), (6, .int (iI 0)), (7, .int (iI r2))] [.int (iI r1), .int (iI r2), .int (iI r2), .ref 35] _ _ _ _
              refine pm_c_ne (t := 124) pm_a206_116 rfl ⟨by omega, by omega⟩ ⟨by omega, by omega⟩ (fun h_9 => ?_) (fun h_9 => ?_)
              · skip
                show pm_E _ _ _ 124 [(0, .ref 18), (1, .int (iI x)), (2, .int (iI y)), (3, .int (iI (w + (-1)))), (4, .int (iI r1)), (5, .int (iI r2)), (6, .int (iI 0)), (7, .int (iI r2))] [.int (iI r2), .ref 35] _ _ _ _
                refine pm_e_sim pm_a206_124 rfl ?_
                show pm_E _ _ _ 126 [(0, .ref 18), (1, .int (iI x)), (2, .int (iI y)), (3, .int (iI (w + (-1)))), (4, .int (iI r1)), (5, .int (iI r2)), (6, .int (iI 0)), (7, .int (iI r2))] [.int (iI r1), .int (iI r2), .ref 35] _ _ _ _
                refine pm_i_ast pm_a206_126 (mh_get (j := 17) hA rfl) (by omega) (by omega) ⟨by omega, by omega⟩ (ma_17 hA _) ?_
                show pm_E _ _ _ 127 [(0, .ref 18), (1, .int (iI x)), (2, .int (iI y)), (3, .int (iI (w + (-1)))), (4, .int (iI r1)), (5, .int (iI r2)), (6, .int (iI 0)), (7, .int (iI r2))] [] _ _ _ _
                refine pm_e_sim pm_a206_127 rfl ?_
                show pm_E _ _ _ 129 [(0, .ref 18), (1, .int (iI x)), (2, .int (iI y)), (3, .int (iI (w + (-1)))), (4, .int (iI r1)), (5, .int (iI r2)), (6, .int (iI 0)), (7, .int (iI r2))] [.int (iI 0)] _ _ _ _
                refine pm_e_ift pm_a206_129 rfl (by decide +kernel) ?_
                show pm_E _ _ _ 191 [(0, .ref 18), (1, .int (iI x)), (2, .int (iI y)), (3, .int (iI (w + (-1)))), (4, .int (iI r1)), (5, .int (iI r2)), (6, .int (iI 0)), (7, .int (iI r2))] [] _ _ _ _
                refine pm_e_goto pm_a206_191 rfl ?_
                show pm_E _ _ _ 16 [(0, .ref 18), (1, .int (iI x)), (2, .int (iI y)), (3, .int (iI (w + (-1)))), (4, .int (iI r1)), (5, .int (iI r2)), (6, .int (iI 0)), (7, .int (iI r2))] [] _ _ _ _
                show pm_E _ _ _ 16 ([(0, .ref 18), (1, .int (iI x)), (2, .int (iI y)), (3, .int (iI (w + (-1))))] ++ [(4, .int (iI r1)), (5, .int (iI r2)), (6, .int (iI 0)), (7, .int (iI r2))]) [] _ _ _ _
                refine pm_e_more [(4, .int (iI r1)), (5, .int (iI r2)), (6, .int (iI 0)), (7, .int (iI r2))] (show ([0, 1, 2, 3, 4, 5, 6, 7] : List Nat).Nodup from by decide) ?_
                have hF2 := FI_link hF (g := r2) (y := r1) (by omega) (by omega) (by omega) (by omega) (by omega)
                have hcn := cnb_up (B := a 17) (g := r2) (y := r1) (by omega) (by omega) (n := (s 32).toNat) (by omega) (by omega)
                have hcl := cnb_le (B := updI (a 17) r2 r1) (n := (s 32).toNat)
                refine ih (w + -1) _ (by omega) (fun j h1 h2 h3 => by simp [updA, h1, fA j h1 h2 h3]) hF2 (fun j z y => hw j z (by omega)) ?_ k ?_
                · show w + -1 ≤ 1 + cnb (updI (a 17) r2 r1) _; omega
                · show 2 * (s 32 - cnb (updI (a 17) r2 r1) _) + (w + -1) < _; omega
              · skip
                show pm_E _ _ _ 119 [(0, .ref 18), (1, .int (iI x)), (2, .int (iI y)), (3, .int (iI (w + (-1)))), (4, .int (iI r1)), (5, .int (iI r2)), (6, .int (iI 0)), (7, .int (iI r2))] [.int (iI r2), .ref 35] _ _ _ _
                refine pm_e_sim pm_a206_119 rfl ?_
                show pm_E _ _ _ 121 [(0, .ref 18), (1, .int (iI x)), (2, .int (iI y)), (3, .int (iI (w + (-1)))), (4, .int (iI r1)), (5, .int (iI r2)), (6, .int (iI 0)), (7, .int (iI r2))] [.int (iI r2), .int (iI r2), .ref 35] _ _ _ _
                refine pm_e_goto pm_a206_121 rfl ?_
                show pm_E _ _ _ 126 [(0, .ref 18), (1, .int (iI x)), (2, .int (iI y)), (3, .int (iI (w + (-1)))), (4, .int (iI r1)), (5, .int (iI r2)), (6, .int (iI 0)), (7, .int (iI r2))] [.int (iI r2), .int (iI r2), .ref 35] _ _ _ _
                refine pm_i_ast pm_a206_126 (mh_get (j := 17) hA rfl) (by omega) (by omega) ⟨by omega, by omega⟩ (ma_17 hA _) ?_
                show pm_E _ _ _ 127 [(0, .ref 18), (1, .int (iI x)), (2, .int (iI y)), (3, .int (iI (w + (-1)))), (4, .int (iI r1)), (5, .int (iI r2)), (6, .int (iI 0)), (7, .int (iI r2))] [] _ _ _ _
                refine pm_e_sim pm_a206_127 rfl ?_
                show pm_E _ _ _ 129 [(0, .ref 18), (1, .int (iI x)), (2, .int (iI y)), (3, .int (iI (w + (-1)))), (4, .int (iI r1)), (5, .int (iI r2)), (6, .int (iI 0)), (7, .int (iI r2))] [.int (iI 0)] _ _ _ _
                refine pm_e_ift pm_a206_129 rfl (by decide +kernel) ?_
                show pm_E _ _ _ 191 [(0, .ref 18), (1, .int (iI x)), (2, .int (iI y)), (3, .int (iI (w + (-1)))), (4, .int (iI r1)), (5, .int (iI r2)), (6, .int (iI 0)), (7, .int (iI r2))] [] _ _ _ _
                refine pm_e_goto pm_a206_191 rfl ?_
                show pm_E _ _ _ 16 [(0, .ref 18), (1, .int (iI x)), (2, .int (iI y)), (3, .int (iI (w + (-1)))), (4, .int (iI r1)), (5, .int (iI r2)), (6, .int (iI 0)), (7, .int (iI r2))] [] _ _ _ _
                show pm_E _ _ _ 16 ([(0, .ref 18), (1, .int (iI x)), (2, .int (iI y)), (3, .int (iI (w + (-1))))] ++ [(4, .int (iI r1)), (5, .int (iI r2)), (6, .int (iI 0)), (7, .int (iI r2))]) [] _ _ _ _
                refine pm_e_more [(4, .int (iI r1)), (5, .int (iI r2)), (6, .int (iI 0)), (7, .int (iI r2))] (show ([0, 1, 2, 3, 4, 5, 6, 7] : List Nat).Nodup from by decide) ?_
                have hF2 := FI_link hF (g := r2) (y := r2) (by omega) (by omega) (by omega) (by omega) (by omega)
                have hcn := cnb_up (B := a 17) (g := r2) (y := r2) (by omega) (by omega) (n := (s 32).toNat) (by omega) (by omega)
                have hcl := cnb_le (B := updI (a 17) r2 r2) (n := (s 32).toNat)
                refine ih (w + -1) _ (by omega) (fun j h1 h2 h3 => by simp [updA, h1, fA j h1 h2 h3]) hF2 (fun j z y => hw j z (by omega)) ?_ k ?_
                · show w + -1 ≤ 1 + cnb (updI (a 17) r2 r2) _; omega
                · show 2 * (s 32 - cnb (updI (a 17) r2 r2) _) + (w + -1) < _; omega
            · skip
              show pm_E _ _ _ 97 [(0, .ref 18), (1, .int (iI x)), (2, .int (iI y)), (3, .int (iI (w + (-1)))), (4, .int (iI r1)), (5, .int (iI r2)), (6, .int (iI 0))] [] _ _ _ _
              refine pm_e_sim pm_a206_97 rfl ?_
              show pm_E _ _ _ 99 [(0, .ref 18), (1, .int (iI x)), (2, .int (iI y)), (3, .int (iI (w + (-1)))), (4, .int (iI r1)), (5, .int (iI r2)), (6, .int (iI 0))] [.int (iI r1)] _ _ _ _
              refine pm_e_goto pm_a206_99 rfl ?_
              show pm_E _ _ _ 104 [(0, .ref 18), (1, .int (iI x)), (2, .int (iI y)), (3, .int (iI (w + (-1)))), (4, .int (iI r1)), (5, .int (iI r2)), (6, .int (iI 0))] [.int (iI r1)] _ _ _ _
              refine pm_e_sim pm_a206_104 rfl ?_
              show pm_E _ _ _ 106 [(0, .ref 18), (1, .int (iI x)), (2, .int (iI y)), (3, .int (iI (w + (-1)))), (4, .int (iI r1)), (5, .int (iI r2)), (6, .int (iI 0)), (7, .int (iI r1))] [] _ _ _ _
              refine pm_e_sim pm_a206_106 rfl ?_
              show pm_E _ _ _ 107 [(0, .ref 18), (1, .int (iI x)), (2, .int (iI y)), (3, .int (iI (w + (-1)))), (4, .int (iI r1)), (5, .int (iI r2)), (6, .int (iI 0)), (7, .int (iI r1))] [.ref 18] _ _ _ _
              refine pm_i_get pm_a206_107 rfl (mh_get (j := 0) hA rfl) rfl ?_
              show pm_E _ _ _ 110 [(0, .ref 18), (1, .int (iI x)), (2, .int (iI y)), (3, .int (iI (w + (-1)))), (4, .int (iI r1)), (5, .int (iI r2)), (6, .int (iI 0)), (7, .int (iI r1))] [.ref 35] _ _ _ _
              refine pm_e_sim pm_a206_110 rfl ?_
              show pm_E _ _ _ 112 [(0, .ref 18), (1, .int (iI x)), (2, .int (iI y)), (3, .int (iI (w + (-1)))), (4, .int (iI r1)), (5, .int (iI r2)), (6, .int (iI 0)), (7, .int (iI r1))] [.int (iI r1), .ref 35] _ _ _ _
              refine pm_e_sim pm_a206_112 rfl ?_
              show pm_E _ _ _ 114 [(0, .ref 18), (1, .int (iI x)), (2, .int (iI y)), (3, .int (iI (w + (-1)))), (4, .int (iI r1)), (5, .int (iI r2)), (6, .int (iI 0)), (7, .int (iI r1))] [.int (iI r1), .int (iI r1), .ref 35] _ _ _ _
              refine pm_e_sim pm_a206_114 rfl ?_
              show pm_E _ _ _ 116 [(0, .ref 18), (1, .int (iI x)), (2, .int (iI y)), (3, .int (iI (w + (-1)))), (4, .int (iI r1)), (5, .int (iI r2)), (6, .int (iI 0)), (7, .int (iI r1))] [.int (iI r1), .int (iI r1), .int (iI r1), .ref 35] _ _ _ _
              refine pm_c_ne (t := 124) pm_a206_116 rfl ⟨by omega, by omega⟩ ⟨by omega, by omega⟩ (fun h_10 => ?_) (fun h_10 => ?_)
              · skip
                show pm_E _ _ _ 124 [(0, .ref 18), (1, .int (iI x)), (2, .int (iI y)), (3, .int (iI (w + (-1)))), (4, .int (iI r1)), (5, .int (iI r2)), (6, .int (iI 0)), (7, .int (iI r1))] [.int (iI r1), .ref 35] _ _ _ _
                refine pm_e_sim pm_a206_124 rfl ?_
                show pm_E _ _ _ 126 [(0, .ref 18), (1, .int (iI x)), (2, .int (iI y)), (3, .int (iI (w + (-1)))), (4, .int (iI r1)), (5, .int (iI r2)), (6, .int (iI 0)), (7, .int (iI r1))] [.int (iI r1), .int (iI r1), .ref 35] _ _ _ _
                refine pm_i_ast pm_a206_126 (mh_get (j := 17) hA rfl) (by omega) (by omega) ⟨by omega, by omega⟩ (ma_17 hA _) ?_
                show pm_E _ _ _ 127 [(0, .ref 18), (1, .int (iI x)), (2, .int (iI y)), (3, .int (iI (w + (-1)))), (4, .int (iI r1)), (5, .int (iI r2)), (6, .int (iI 0)), (7, .int (iI r1))] [] _ _ _ _
                refine pm_e_sim pm_a206_127 rfl ?_
                show pm_E _ _ _ 129 [(0, .ref 18), (1, .int (iI x)), (2, .int (iI y)), (3, .int (iI (w + (-1)))), (4, .int (iI r1)), (5, .int (iI r2)), (6, .int (iI 0)), (7, .int (iI r1))] [.int (iI 0)] _ _ _ _
                refine pm_e_ift pm_a206_129 rfl (by decide +kernel) ?_
                show pm_E _ _ _ 191 [(0, .ref 18), (1, .int (iI x)), (2, .int (iI y)), (3, .int (iI (w + (-1)))), (4, .int (iI r1)), (5, .int (iI r2)), (6, .int (iI 0)), (7, .int (iI r1))] [] _ _ _ _
                refine pm_e_goto pm_a206_191 rfl ?_
                show pm_E _ _ _ 16 [(0, .ref 18), (1, .int (iI x)), (2, .int (iI y)), (3, .int (iI (w + (-1)))), (4, .int (iI r1)), (5, .int (iI r2)), (6, .int (iI 0)), (7, .int (iI r1))] [] _ _ _ _
                show pm_E _ _ _ 16 ([(0, .ref 18), (1, .int (iI x)), (2, .int (iI y)), (3, .int (iI (w + (-1))))] ++ [(4, .int (iI r1)), (5, .int (iI r2)), (6, .int (iI 0)), (7, .int (iI r1))]) [] _ _ _ _
                refine pm_e_more [(4, .int (iI r1)), (5, .int (iI r2)), (6, .int (iI 0)), (7, .int (iI r1))] (show ([0, 1, 2, 3, 4, 5, 6, 7] : List Nat).Nodup from by decide) ?_
                have hF2 := FI_link hF (g := r1) (y := r1) (by omega) (by omega) (by omega) (by omega) (by omega)
                have hcn := cnb_up (B := a 17) (g := r1) (y := r1) (by omega) (by omega) (n := (s 32).toNat) (by omega) (by omega)
                have hcl := cnb_le (B := updI (a 17) r1 r1) (n := (s 32).toNat)
                refine ih (w + -1) _ (by omega) (fun j h1 h2 h3 => by simp [updA, h1, fA j h1 h2 h3]) hF2 (fun j z y => hw j z (by omega)) ?_ k ?_
                · show w + -1 ≤ 1 + cnb (updI (a 17) r1 r1) _; omega
                · show 2 * (s 32 - cnb (updI (a 17) r1 r1) _) + (w + -1) < _; omega
              · skip
                show pm_E _ _ _ 119 [(0, .ref 18), (1, .int (iI x)), (2, .int (iI y)), (3, .int (iI (w + (-1)))), (4, .int (iI r1)), (5, .int (iI r2)), (6, .int (iI 0)), (7, .int (iI r1))] [.int (iI r1), .ref 35] _ _ _ _
                refine pm_e_sim pm_a206_119 rfl ?_
                show pm_E _ _ _ 121 [(0, .ref 18), (1, .int (iI x)), (2, .int (iI y)), (3, .int (iI (w + (-1)))), (4, .int (iI r1)), (5, .int (iI r2)), (6, .int (iI 0)), (7, .int (iI r1))] [.int (iI r2), .int (iI r1), .ref 35] _ _ _ _
                refine pm_e_goto pm_a206_121 rfl ?_
                show pm_E _ _ _ 126 [(0, .ref 18), (1, .int (iI x)), (2, .int (iI y)), (3, .int (iI (w + (-1)))), (4, .int (iI r1)), (5, .int (iI r2)), (6, .int (iI 0)), (7, .int (iI r1))] [.int (iI r2), .int (iI r1), .ref 35] _ _ _ _
                refine pm_i_ast pm_a206_126 (mh_get (j := 17) hA rfl) (by omega) (by omega) ⟨by omega, by omega⟩ (ma_17 hA _) ?_
                show pm_E _ _ _ 127 [(0, .ref 18), (1, .int (iI x)), (2, .int (iI y)), (3, .int (iI (w + (-1)))), (4, .int (iI r1)), (5, .int (iI r2)), (6, .int (iI 0)), (7, .int (iI r1))] [] _ _ _ _
                refine pm_e_sim pm_a206_127 rfl ?_
                show pm_E _ _ _ 129 [(0, .ref 18), (1, .int (iI x)), (2, .int (iI y)), (3, .int (iI (w + (-1)))), (4, .int (iI r1)), (5, .int (iI r2)), (6, .int (iI 0)), (7, .int (iI r1))] [.int (iI 0)] _ _ _ _
                refine pm_e_ift pm_a206_129 rfl (by decide +kernel) ?_
                show pm_E _ _ _ 191 [(0, .ref 18), (1, .int (iI x)), (2, .int (iI y)), (3, .int (iI (w + (-1)))), (4, .int (iI r1)), (5, .int (iI r2)), (6, .int (iI 0)), (7, .int (iI r1))] [] _ _ _ _
                refine pm_e_goto pm_a206_191 rfl ?_
                show pm_E _ _ _ 16 [(0, .ref 18), (1, .int (iI x)), (2, .int (iI y)), (3, .int (iI (w + (-1)))), (4, .int (iI r1)), (5, .int (iI r2)), (6, .int (iI 0)), (7, .int (iI r1))] [] _ _ _ _
                show pm_E _ _ _ 16 ([(0, .ref 18), (1, .int (iI x)), (2, .int (iI y)), (3, .int (iI (w + (-1))))] ++ [(4, .int (iI r1)), (5, .int (iI r2)), (6, .int (iI 0)), (7, .int (iI r1))]) [] _ _ _ _
                refine pm_e_more [(4, .int (iI r1)), (5, .int (iI r2)), (6, .int (iI 0)), (7, .int (iI r1))] (show ([0, 1, 2, 3, 4, 5, 6, 7] : List Nat).Nodup from by decide) ?_
                have hF2 := FI_link hF (g := r1) (y := r2) (by omega) (by omega) (by omega) (by omega) (by omega)
                have hcn := cnb_up (B := a 17) (g := r1) (y := r2) (by omega) (by omega) (n := (s 32).toNat) (by omega) (by omega)
                have hcl := cnb_le (B := updI (a 17) r1 r2) (n := (s 32).toNat)
                refine ih (w + -1) _ (by omega) (fun j h1 h2 h3 => by simp [updA, h1, fA j h1 h2 h3]) hF2 (fun j z y => hw j z (by omega)) ?_ k ?_
                · show w + -1 ≤ 1 + cnb (updI (a 17) r1 r2) _; omega
                · show 2 * (s 32 - cnb (updI (a 17) r1 r2) _) + (w + -1) < _; omega
          · skip
            show pm_E _ _ _ 78 [(0, .ref 18), (1, .int (iI x)), (2, .int (iI y)), (3, .int (iI (w + (-1)))), (4, .int (iI r1)), (5, .int (iI r2))] [] _ _ _ _
            refine pm_e_sim pm_a206_78 rfl ?_
            refine pm_e_top (y := iI 1) (by decide +kernel) ?_
            show pm_E _ _ _ 79 [(0, .ref 18), (1, .int (iI x)), (2, .int (iI y)), (3, .int (iI (w + (-1)))), (4, .int (iI r1)), (5, .int (iI r2))] [.int (iI 1)] _ _ _ _
            refine pm_e_goto pm_a206_79 rfl ?_
            show pm_E _ _ _ 83 [(0, .ref 18), (1, .int (iI x)), (2, .int (iI y)), (3, .int (iI (w + (-1)))), (4, .int (iI r1)), (5, .int (iI r2))] [.int (iI 1)] _ _ _ _
            refine pm_e_sim pm_a206_83 rfl ?_
            show pm_E _ _ _ 85 [(0, .ref 18), (1, .int (iI x)), (2, .int (iI y)), (3, .int (iI (w + (-1)))), (4, .int (iI r1)), (5, .int (iI r2)), (6, .int (iI 1))] [] _ _ _ _
            refine pm_e_sim pm_a206_85 rfl ?_
            show pm_E _ _ _ 86 [(0, .ref 18), (1, .int (iI x)), (2, .int (iI y)), (3, .int (iI (w + (-1)))), (4, .int (iI r1)), (5, .int (iI r2)), (6, .int (iI 1))] [.ref 18] _ _ _ _
            refine pm_i_get pm_a206_86 rfl (mh_get (j := 0) hA rfl) rfl ?_
            show pm_E _ _ _ 89 [(0, .ref 18), (1, .int (iI x)), (2, .int (iI y)), (3, .int (iI (w + (-1)))), (4, .int (iI r1)), (5, .int (iI r2)), (6, .int (iI 1))] [.ref 36] _ _ _ _
            refine pm_e_sim pm_a206_89 rfl ?_
            show pm_E _ _ _ 91 [(0, .ref 18), (1, .int (iI x)), (2, .int (iI y)), (3, .int (iI (w + (-1)))), (4, .int (iI r1)), (5, .int (iI r2)), (6, .int (iI 1))] [.int (iI r1), .ref 36] _ _ _ _
            refine pm_i_ald pm_a206_91 (mh_get (j := 18) hA rfl) (by omega) (by omega) ⟨by omega, by omega⟩ ?_
            show pm_E _ _ _ 92 [(0, .ref 18), (1, .int (iI x)), (2, .int (iI y)), (3, .int (iI (w + (-1)))), (4, .int (iI r1)), (5, .int (iI r2)), (6, .int (iI 1))] [.int (iI ((a 18) (r1)))] _ _ _ _
            refine pm_e_sim pm_a206_92 rfl ?_
            refine pm_e_top (y := iI (-4)) (by decide +kernel) ?_
            show pm_E _ _ _ 94 [(0, .ref 18), (1, .int (iI x)), (2, .int (iI y)), (3, .int (iI (w + (-1)))), (4, .int (iI r1)), (5, .int (iI r2)), (6, .int (iI 1))] [.int (iI (-4)), .int (iI ((a 18) (r1)))] _ _ _ _
            refine pm_c_ne (t := 102) pm_a206_94 rfl ⟨by omega, by omega⟩ ⟨by omega, by omega⟩ (fun h_11 => ?_) (fun h_11 => ?_)
            · skip
              show pm_E _ _ _ 102 [(0, .ref 18), (1, .int (iI x)), (2, .int (iI y)), (3, .int (iI (w + (-1)))), (4, .int (iI r1)), (5, .int (iI r2)), (6, .int (iI 1))] [] _ _ _ _
              refine pm_e_sim pm_a206_102 rfl ?_
              show pm_E _ _ _ 104 [(0, .ref 18), (1, .int (iI x)), (2, .int (iI y)), (3, .int (iI (w + (-1)))), (4, .int (iI r1)), (5, .int (iI r2)), (6, .int (iI 1))] [.int (iI r2)] _ _ _ _
              refine pm_e_sim pm_a206_104 rfl ?_
              show pm_E _ _ _ 106 [(0, .ref 18), (1, .int (iI x)), (2, .int (iI y)), (3, .int (iI (w + (-1)))), (4, .int (iI r1)), (5, .int (iI r2)), (6, .int (iI 1)), (7, .int (iI r2))] [] _ _ _ _
              refine pm_e_sim pm_a206_106 rfl ?_
              show pm_E _ _ _ 107 [(0, .ref 18), (1, .int (iI x)), (2, .int (iI y)), (3, .int (iI (w + (-1)))), (4, .int (iI r1)), (5, .int (iI r2)), (6, .int (iI 1)), (7, .int (iI r2))] [.ref 18] _ _ _ _
              refine pm_i_get pm_a206_107 rfl (mh_get (j := 0) hA rfl) rfl ?_
              show pm_E _ _ _ 110 [(0, .ref 18), (1, .int (iI x)), (2, .int (iI y)), (3, .int (iI (w + (-1)))), (4, .int (iI r1)), (5, .int (iI r2)), (6, .int (iI 1)), (7, .int (iI r2))] [.ref 35] _ _ _ _
              refine pm_e_sim pm_a206_110 rfl ?_
              show pm_E _ _ _ 112 [(0, .ref 18), (1, .int (iI x)), (2, .int (iI y)), (3, .int (iI (w + (-1)))), (4, .int (iI r1)), (5, .int (iI r2)), (6, .int (iI 1)), (7, .int (iI r2))] [.int (iI r2), .ref 35] _ _ _ _
              refine pm_e_sim pm_a206_112 rfl ?_
              show pm_E _ _ _ 114 [(0, .ref 18), (1, .int (iI x)), (2, .int (iI y)), (3, .int (iI (w + (-1)))), (4, .int (iI r1)), (5, .int (iI r2)), (6, .int (iI 1)), (7, .int (iI r2))] [.int (iI r2), .int (iI r2), .ref 35] _ _ _ _
              refine pm_e_sim pm_a206_114 rfl ?_
              show pm_E _ _ _ 116 [(0, .ref 18), (1, .int (iI x)), (2, .int (iI y)), (3, .int (iI (w + (-1)))), (4, .int (iI r1)), (5, .int (iI r2)), (6, .int (iI 1)), (7, .int (iI r2))] [.int (iI r1), .int (iI r2), .int (iI r2), .ref 35] _ _ _ _
              refine pm_c_ne (t := 124) pm_a206_116 rfl ⟨by omega, by omega⟩ ⟨by omega, by omega⟩ (fun h_12 => ?_) (fun h_12 => ?_)
              · skip
                show pm_E _ _ _ 124 [(0, .ref 18), (1, .int (iI x)), (2, .int (iI y)), (3, .int (iI (w + (-1)))), (4, .int (iI r1)), (5, .int (iI r2)), (6, .int (iI 1)), (7, .int (iI r2))] [.int (iI r2), .ref 35] _ _ _ _
                refine pm_e_sim pm_a206_124 rfl ?_
                show pm_E _ _ _ 126 [(0, .ref 18), (1, .int (iI x)), (2, .int (iI y)), (3, .int (iI (w + (-1)))), (4, .int (iI r1)), (5, .int (iI r2)), (6, .int (iI 1)), (7, .int (iI r2))] [.int (iI r1), .int (iI r2), .ref 35] _ _ _ _
                refine pm_i_ast pm_a206_126 (mh_get (j := 17) hA rfl) (by omega) (by omega) ⟨by omega, by omega⟩ (ma_17 hA _) ?_
                show pm_E _ _ _ 127 [(0, .ref 18), (1, .int (iI x)), (2, .int (iI y)), (3, .int (iI (w + (-1)))), (4, .int (iI r1)), (5, .int (iI r2)), (6, .int (iI 1)), (7, .int (iI r2))] [] _ _ _ _
                refine pm_e_sim pm_a206_127 rfl ?_
                show pm_E _ _ _ 129 [(0, .ref 18), (1, .int (iI x)), (2, .int (iI y)), (3, .int (iI (w + (-1)))), (4, .int (iI r1)), (5, .int (iI r2)), (6, .int (iI 1)), (7, .int (iI r2))] [.int (iI 1)] _ _ _ _
                refine pm_e_iff pm_a206_129 rfl (by decide +kernel) ?_
                show pm_E _ _ _ 132 [(0, .ref 18), (1, .int (iI x)), (2, .int (iI y)), (3, .int (iI (w + (-1)))), (4, .int (iI r1)), (5, .int (iI r2)), (6, .int (iI 1)), (7, .int (iI r2))] [] _ _ _ _
                refine pm_e_sim pm_a206_132 rfl ?_
                show pm_E _ _ _ 133 [(0, .ref 18), (1, .int (iI x)), (2, .int (iI y)), (3, .int (iI (w + (-1)))), (4, .int (iI r1)), (5, .int (iI r2)), (6, .int (iI 1)), (7, .int (iI r2))] [.ref 18] _ _ _ _
                refine pm_i_get pm_a206_133 rfl (mh_get (j := 0) hA rfl) rfl ?_
                show pm_E _ _ _ 136 [(0, .ref 18), (1, .int (iI x)), (2, .int (iI y)), (3, .int (iI (w + (-1)))), (4, .int (iI r1)), (5, .int (iI r2)), (6, .int (iI 1)), (7, .int (iI r2))] [.ref 38] _ _ _ _
                refine pm_e_sim pm_a206_136 rfl ?_
                show pm_E _ _ _ 137 [(0, .ref 18), (1, .int (iI x)), (2, .int (iI y)), (3, .int (iI (w + (-1)))), (4, .int (iI r1)), (5, .int (iI r2)), (6, .int (iI 1)), (7, .int (iI r2))] [.int (iI (w + (-1))), .ref 38] _ _ _ _
                refine pm_e_sim pm_a206_137 rfl ?_
                show pm_E _ _ _ 138 [(0, .ref 18), (1, .int (iI x)), (2, .int (iI y)), (3, .int (iI (w + (-1)))), (4, .int (iI r1)), (5, .int (iI r2)), (6, .int (iI 1)), (7, .int (iI r2))] [.ref 18, .int (iI (w + (-1))), .ref 38] _ _ _ _
                refine pm_i_get pm_a206_138 rfl (mh_get (j := 0) hA rfl) rfl ?_
                show pm_E _ _ _ 141 [(0, .ref 18), (1, .int (iI x)), (2, .int (iI y)), (3, .int (iI (w + (-1)))), (4, .int (iI r1)), (5, .int (iI r2)), (6, .int (iI 1)), (7, .int (iI r2))] [.ref 36, .int (iI (w + (-1))), .ref 38] _ _ _ _
                refine pm_e_sim pm_a206_141 rfl ?_
                show pm_E _ _ _ 143 [(0, .ref 18), (1, .int (iI x)), (2, .int (iI y)), (3, .int (iI (w + (-1)))), (4, .int (iI r1)), (5, .int (iI r2)), (6, .int (iI 1)), (7, .int (iI r2))] [.int (iI r1), .ref 36, .int (iI (w + (-1))), .ref 38] _ _ _ _
                refine pm_i_ald pm_a206_143 (mh_get (j := 18) hA rfl) (by omega) (by omega) ⟨by omega, by omega⟩ ?_
                show pm_E _ _ _ 144 [(0, .ref 18), (1, .int (iI x)), (2, .int (iI y)), (3, .int (iI (w + (-1)))), (4, .int (iI r1)), (5, .int (iI r2)), (6, .int (iI 1)), (7, .int (iI r2))] [.int (iI ((a 18) (r1))), .int (iI (w + (-1))), .ref 38] _ _ _ _
                refine pm_i_ast pm_a206_144 (mh_get (j := 20) hA rfl) (by omega) (by omega) ⟨by omega, by omega⟩ (ma_20 hA _) ?_
                show pm_E _ _ _ 145 [(0, .ref 18), (1, .int (iI x)), (2, .int (iI y)), (3, .int (iI (w + (-1)))), (4, .int (iI r1)), (5, .int (iI r2)), (6, .int (iI 1)), (7, .int (iI r2))] [] _ _ _ _
                refine pm_e_sim pm_a206_145 rfl ?_
                show pm_E _ _ _ 146 [(0, .ref 18), (1, .int (iI x)), (2, .int (iI y)), (3, .int (iI (w + (-1)))), (4, .int (iI r1)), (5, .int (iI r2)), (6, .int (iI 1)), (7, .int (iI r2))] [.ref 18] _ _ _ _
                refine pm_i_get pm_a206_146 rfl (mh_get (j := 0) hA rfl) rfl ?_
                show pm_E _ _ _ 149 [(0, .ref 18), (1, .int (iI x)), (2, .int (iI y)), (3, .int (iI (w + (-1)))), (4, .int (iI r1)), (5, .int (iI r2)), (6, .int (iI 1)), (7, .int (iI r2))] [.ref 39] _ _ _ _
                refine pm_e_sim pm_a206_149 rfl ?_
                show pm_E _ _ _ 150 [(0, .ref 18), (1, .int (iI x)), (2, .int (iI y)), (3, .int (iI (w + (-1)))), (4, .int (iI r1)), (5, .int (iI r2)), (6, .int (iI 1)), (7, .int (iI r2))] [.int (iI (w + (-1))), .ref 39] _ _ _ _
                refine pm_e_sim pm_a206_150 rfl ?_
                show pm_E _ _ _ 151 [(0, .ref 18), (1, .int (iI x)), (2, .int (iI y)), (3, .int (iI (w + (-1)))), (4, .int (iI r1)), (5, .int (iI r2)), (6, .int (iI 1)), (7, .int (iI r2))] [.ref 18, .int (iI (w + (-1))), .ref 39] _ _ _ _
                refine pm_i_get pm_a206_151 rfl (mh_get (j := 0) hA rfl) rfl ?_
                show pm_E _ _ _ 154 [(0, .ref 18), (1, .int (iI x)), (2, .int (iI y)), (3, .int (iI (w + (-1)))), (4, .int (iI r1)), (5, .int (iI r2)), (6, .int (iI 1)), (7, .int (iI r2))] [.ref 36, .int (iI (w + (-1))), .ref 39] _ _ _ _
                refine pm_e_sim pm_a206_154 rfl ?_
                show pm_E _ _ _ 156 [(0, .ref 18), (1, .int (iI x)), (2, .int (iI y)), (3, .int (iI (w + (-1)))), (4, .int (iI r1)), (5, .int (iI r2)), (6, .int (iI 1)), (7, .int (iI r2))] [.int (iI r2), .ref 36, .int (iI (w + (-1))), .ref 39] _ _ _ _
                refine pm_i_ald pm_a206_156 (mh_get (j := 18) hA rfl) (by omega) (by omega) ⟨by omega, by omega⟩ ?_
                show pm_E _ _ _ 157 [(0, .ref 18), (1, .int (iI x)), (2, .int (iI y)), (3, .int (iI (w + (-1)))), (4, .int (iI r1)), (5, .int (iI r2)), (6, .int (iI 1)), (7, .int (iI r2))] [.int (iI ((a 18) (r2))), .int (iI (w + (-1))), .ref 39] _ _ _ _
                refine pm_i_ast pm_a206_157 (mh_get (j := 21) hA rfl) (by omega) (by omega) ⟨by omega, by omega⟩ (ma_21 hA _) ?_
                show pm_E _ _ _ 158 [(0, .ref 18), (1, .int (iI x)), (2, .int (iI y)), (3, .int (iI (w + (-1)))), (4, .int (iI r1)), (5, .int (iI r2)), (6, .int (iI 1)), (7, .int (iI r2))] [] _ _ _ _
                refine pm_e_sim pm_a206_158 rfl ?_
                show pm_E _ _ _ 159 [(0, .ref 18), (1, .int (iI x)), (2, .int (iI y)), (3, .int (iI (w + (-1)))), (4, .int (iI r1)), (5, .int (iI r2)), (6, .int (iI 1)), (7, .int (iI r2))] [.ref 18] _ _ _ _
                refine pm_i_get pm_a206_159 rfl (mh_get (j := 0) hA rfl) rfl ?_
                show pm_E _ _ _ 162 [(0, .ref 18), (1, .int (iI x)), (2, .int (iI y)), (3, .int (iI (w + (-1)))), (4, .int (iI r1)), (5, .int (iI r2)), (6, .int (iI 1)), (7, .int (iI r2))] [.ref 38] _ _ _ _
                refine pm_e_sim pm_a206_162 rfl ?_
                show pm_E _ _ _ 163 [(0, .ref 18), (1, .int (iI x)), (2, .int (iI y)), (3, .int (iI (w + (-1)))), (4, .int (iI r1)), (5, .int (iI r2)), (6, .int (iI 1)), (7, .int (iI r2))] [.int (iI (w + (-1))), .ref 38] _ _ _ _
                refine pm_e_sim pm_a206_163 rfl ?_
                refine pm_e_top (y := iI 1) (by decide +kernel) ?_
                show pm_E _ _ _ 164 [(0, .ref 18), (1, .int (iI x)), (2, .int (iI y)), (3, .int (iI (w + (-1)))), (4, .int (iI r1)), (5, .int (iI r2)), (6, .int (iI 1)), (7, .int (iI r2))] [.int (iI 1), .int (iI (w + (-1))), .ref 38] _ _ _ _
                refine pm_e_sim pm_a206_164 rfl ?_
                refine pm_e_top (y := iI (w + (-1) + 1)) (iI_add _ _) ?_
                show pm_E _ _ _ 165 [(0, .ref 18), (1, .int (iI x)), (2, .int (iI y)), (3, .int (iI (w + (-1)))), (4, .int (iI r1)), (5, .int (iI r2)), (6, .int (iI 1)), (7, .int (iI r2))] [.int (iI (w + (-1) + 1)), .ref 38] _ _ _ _
                refine pm_e_sim pm_a206_165 rfl ?_
                show pm_E _ _ _ 166 [(0, .ref 18), (1, .int (iI x)), (2, .int (iI y)), (3, .int (iI (w + (-1)))), (4, .int (iI r1)), (5, .int (iI r2)), (6, .int (iI 1)), (7, .int (iI r2))] [.ref 18, .int (iI (w + (-1) + 1)), .ref 38] _ _ _ _
                refine pm_i_get pm_a206_166 rfl (mh_get (j := 0) hA rfl) rfl ?_
                show pm_E _ _ _ 169 [(0, .ref 18), (1, .int (iI x)), (2, .int (iI y)), (3, .int (iI (w + (-1)))), (4, .int (iI r1)), (5, .int (iI r2)), (6, .int (iI 1)), (7, .int (iI r2))] [.ref 37, .int (iI (w + (-1) + 1)), .ref 38] _ _ _ _
                refine pm_e_sim pm_a206_169 rfl ?_
                show pm_E _ _ _ 171 [(0, .ref 18), (1, .int (iI x)), (2, .int (iI y)), (3, .int (iI (w + (-1)))), (4, .int (iI r1)), (5, .int (iI r2)), (6, .int (iI 1)), (7, .int (iI r2))] [.int (iI r1), .ref 37, .int (iI (w + (-1) + 1)), .ref 38] _ _ _ _
                refine pm_i_ald pm_a206_171 (mh_get (j := 19) hA rfl) (by omega) (by omega) ⟨by omega, by omega⟩ ?_
                show pm_E _ _ _ 172 [(0, .ref 18), (1, .int (iI x)), (2, .int (iI y)), (3, .int (iI (w + (-1)))), (4, .int (iI r1)), (5, .int (iI r2)), (6, .int (iI 1)), (7, .int (iI r2))] [.int (iI ((a 19) (r1))), .int (iI (w + (-1) + 1)), .ref 38] _ _ _ _
                refine pm_i_ast pm_a206_172 (mh_get (j := 20) hA rfl) (by omega) (by omega) ⟨by omega, by omega⟩ (ma_20 hA _) ?_
                show pm_E _ _ _ 173 [(0, .ref 18), (1, .int (iI x)), (2, .int (iI y)), (3, .int (iI (w + (-1)))), (4, .int (iI r1)), (5, .int (iI r2)), (6, .int (iI 1)), (7, .int (iI r2))] [] _ _ _ _
                refine pm_e_sim pm_a206_173 rfl ?_
                show pm_E _ _ _ 174 [(0, .ref 18), (1, .int (iI x)), (2, .int (iI y)), (3, .int (iI (w + (-1)))), (4, .int (iI r1)), (5, .int (iI r2)), (6, .int (iI 1)), (7, .int (iI r2))] [.ref 18] _ _ _ _
                refine pm_i_get pm_a206_174 rfl (mh_get (j := 0) hA rfl) rfl ?_
                show pm_E _ _ _ 177 [(0, .ref 18), (1, .int (iI x)), (2, .int (iI y)), (3, .int (iI (w + (-1)))), (4, .int (iI r1)), (5, .int (iI r2)), (6, .int (iI 1)), (7, .int (iI r2))] [.ref 39] _ _ _ _
                refine pm_e_sim pm_a206_177 rfl ?_
                show pm_E _ _ _ 178 [(0, .ref 18), (1, .int (iI x)), (2, .int (iI y)), (3, .int (iI (w + (-1)))), (4, .int (iI r1)), (5, .int (iI r2)), (6, .int (iI 1)), (7, .int (iI r2))] [.int (iI (w + (-1))), .ref 39] _ _ _ _
                refine pm_e_sim pm_a206_178 rfl ?_
                refine pm_e_top (y := iI 1) (by decide +kernel) ?_
                show pm_E _ _ _ 179 [(0, .ref 18), (1, .int (iI x)), (2, .int (iI y)), (3, .int (iI (w + (-1)))), (4, .int (iI r1)), (5, .int (iI r2)), (6, .int (iI 1)), (7, .int (iI r2))] [.int (iI 1), .int (iI (w + (-1))), .ref 39] _ _ _ _
                refine pm_e_sim pm_a206_179 rfl ?_
                refine pm_e_top (y := iI (w + (-1) + 1)) (iI_add _ _) ?_
                show pm_E _ _ _ 180 [(0, .ref 18), (1, .int (iI x)), (2, .int (iI y)), (3, .int (iI (w + (-1)))), (4, .int (iI r1)), (5, .int (iI r2)), (6, .int (iI 1)), (7, .int (iI r2))] [.int (iI (w + (-1) + 1)), .ref 39] _ _ _ _
                refine pm_e_sim pm_a206_180 rfl ?_
                show pm_E _ _ _ 181 [(0, .ref 18), (1, .int (iI x)), (2, .int (iI y)), (3, .int (iI (w + (-1)))), (4, .int (iI r1)), (5, .int (iI r2)), (6, .int (iI 1)), (7, .int (iI r2))] [.ref 18, .int (iI (w + (-1) + 1)), .ref 39] _ _ _ _
                refine pm_i_get pm_a206_181 rfl (mh_get (j := 0) hA rfl) rfl ?_
                show pm_E _ _ _ 184 [(0, .ref 18), (1, .int (iI x)), (2, .int (iI y)), (3, .int (iI (w + (-1)))), (4, .int (iI r1)), (5, .int (iI r2)), (6, .int (iI 1)), (7, .int (iI r2))] [.ref 37, .int (iI (w + (-1) + 1)), .ref 39] _ _ _ _
                refine pm_e_sim pm_a206_184 rfl ?_
                show pm_E _ _ _ 186 [(0, .ref 18), (1, .int (iI x)), (2, .int (iI y)), (3, .int (iI (w + (-1)))), (4, .int (iI r1)), (5, .int (iI r2)), (6, .int (iI 1)), (7, .int (iI r2))] [.int (iI r2), .ref 37, .int (iI (w + (-1) + 1)), .ref 39] _ _ _ _
                refine pm_i_ald pm_a206_186 (mh_get (j := 19) hA rfl) (by omega) (by omega) ⟨by omega, by omega⟩ ?_
                show pm_E _ _ _ 187 [(0, .ref 18), (1, .int (iI x)), (2, .int (iI y)), (3, .int (iI (w + (-1)))), (4, .int (iI r1)), (5, .int (iI r2)), (6, .int (iI 1)), (7, .int (iI r2))] [.int (iI ((a 19) (r2))), .int (iI (w + (-1) + 1)), .ref 39] _ _ _ _
                refine pm_i_ast pm_a206_187 (mh_get (j := 21) hA rfl) (by omega) (by omega) ⟨by omega, by omega⟩ (ma_21 hA _) ?_
                show pm_E _ _ _ 188 [(0, .ref 18), (1, .int (iI x)), (2, .int (iI y)), (3, .int (iI (w + (-1)))), (4, .int (iI r1)), (5, .int (iI r2)), (6, .int (iI 1)), (7, .int (iI r2))] [] _ _ _ _
                refine pm_e_inc (y := iI (w + (-1) + 2)) pm_a206_188 rfl (iI_add _ _) (by decide +kernel) rfl ?_
                show pm_E _ _ _ 191 [(0, .ref 18), (1, .int (iI x)), (2, .int (iI y)), (3, .int (iI (w + (-1) + 2))), (4, .int (iI r1)), (5, .int (iI r2)), (6, .int (iI 1)), (7, .int (iI r2))] [] _ _ _ _
                refine pm_e_goto pm_a206_191 rfl ?_
                show pm_E _ _ _ 16 [(0, .ref 18), (1, .int (iI x)), (2, .int (iI y)), (3, .int (iI (w + (-1) + 2))), (4, .int (iI r1)), (5, .int (iI r2)), (6, .int (iI 1)), (7, .int (iI r2))] [] _ _ _ _
                show pm_E _ _ _ 16 ([(0, .ref 18), (1, .int (iI x)), (2, .int (iI y)), (3, .int (iI (w + (-1) + 2)))] ++ [(4, .int (iI r1)), (5, .int (iI r2)), (6, .int (iI 1)), (7, .int (iI r2))]) [] _ _ _ _
                refine pm_e_more [(4, .int (iI r1)), (5, .int (iI r2)), (6, .int (iI 1)), (7, .int (iI r2))] (show ([0, 1, 2, 3, 4, 5, 6, 7] : List Nat).Nodup from by decide) ?_
                have hF2 := FI_link hF (g := r2) (y := r1) (by omega) (by omega) (by omega) (by omega) (by omega)
                have hcn := cnb_up (B := a 17) (g := r2) (y := r1) (by omega) (by omega) (n := (s 32).toNat) (by omega) (by omega)
                have hcl := cnb_le (B := updI (a 17) r2 r1) (n := (s 32).toNat)
                refine ih (w + -1 + 2) _ (by omega) (fun j h1 h2 h3 => by simp [updA, h1, h2, h3, fA j h1 h2 h3]) hF2 (fun j z y => ?_) ?_ k ?_
                · have h9 := hw j
                  show (0 ≤ updI (updI (a 20) (w + -1) _) (w + -1 + 1) _ j ∧ updI (updI (a 20) (w + -1) _) (w + -1 + 1) _ j < s 32) ∧ (0 ≤ updI (updI (a 21) (w + -1) _) (w + -1 + 1) _ j ∧ updI (updI (a 21) (w + -1) _) (w + -1 + 1) _ j < s 32)
                  unfold updI
                  repeat' split
                  all_goals omega
                · show w + -1 + 2 ≤ 1 + cnb (updI (a 17) r2 r1) _; omega
                · show 2 * (s 32 - cnb (updI (a 17) r2 r1) _) + (w + -1 + 2) < _; omega
              · skip
                show pm_E _ _ _ 119 [(0, .ref 18), (1, .int (iI x)), (2, .int (iI y)), (3, .int (iI (w + (-1)))), (4, .int (iI r1)), (5, .int (iI r2)), (6, .int (iI 1)), (7, .int (iI r2))] [.int (iI r2), .ref 35] _ _ _ _
                refine pm_e_sim pm_a206_119 rfl ?_
                show pm_E _ _ _ 121 [(0, .ref 18), (1, .int (iI x)), (2, .int (iI y)), (3, .int (iI (w + (-1)))), (4, .int (iI r1)), (5, .int (iI r2)), (6, .int (iI 1)), (7, .int (iI r2))] [.int (iI r2), .int (iI r2), .ref 35] _ _ _ _
                refine pm_e_goto pm_a206_121 rfl ?_
                show pm_E _ _ _ 126 [(0, .ref 18), (1, .int (iI x)), (2, .int (iI y)), (3, .int (iI (w + (-1)))), (4, .int (iI r1)), (5, .int (iI r2)), (6, .int (iI 1)), (7, .int (iI r2))] [.int (iI r2), .int (iI r2), .ref 35] _ _ _ _
                refine pm_i_ast pm_a206_126 (mh_get (j := 17) hA rfl) (by omega) (by omega) ⟨by omega, by omega⟩ (ma_17 hA _) ?_
                show pm_E _ _ _ 127 [(0, .ref 18), (1, .int (iI x)), (2, .int (iI y)), (3, .int (iI (w + (-1)))), (4, .int (iI r1)), (5, .int (iI r2)), (6, .int (iI 1)), (7, .int (iI r2))] [] _ _ _ _
                refine pm_e_sim pm_a206_127 rfl ?_
                show pm_E _ _ _ 129 [(0, .ref 18), (1, .int (iI x)), (2, .int (iI y)), (3, .int (iI (w + (-1)))), (4, .int (iI r1)), (5, .int (iI r2)), (6, .int (iI 1)), (7, .int (iI r2))] [.int (iI 1)] _ _ _ _
                refine pm_e_iff pm_a206_129 rfl (by decide +kernel) ?_
                show pm_E _ _ _ 132 [(0, .ref 18), (1, .int (iI x)), (2, .int (iI y)), (3, .int (iI (w + (-1)))), (4, .int (iI r1)), (5, .int (iI r2)), (6, .int (iI 1)), (7, .int (iI r2))] [] _ _ _ _
                refine pm_e_sim pm_a206_132 rfl ?_
                show pm_E _ _ _ 133 [(0, .ref 18), (1, .int (iI x)), (2, .int (iI y)), (3, .int (iI (w + (-1)))), (4, .int (iI r1)), (5, .int (iI r2)), (6, .int (iI 1)), (7, .int (iI r2))] [.ref 18] _ _ _ _
                refine pm_i_get pm_a206_133 rfl (mh_get (j := 0) hA rfl) rfl ?_
                show pm_E _ _ _ 136 [(0, .ref 18), (1, .int (iI x)), (2, .int (iI y)), (3, .int (iI (w + (-1)))), (4, .int (iI r1)), (5, .int (iI r2)), (6, .int (iI 1)), (7, .int (iI r2))] [.ref 38] _ _ _ _
                refine pm_e_sim pm_a206_136 rfl ?_
                show pm_E _ _ _ 137 [(0, .ref 18), (1, .int (iI x)), (2, .int (iI y)), (3, .int (iI (w + (-1)))), (4, .int (iI r1)), (5, .int (iI r2)), (6, .int (iI 1)), (7, .int (iI r2))] [.int (iI (w + (-1))), .ref 38] _ _ _ _
                refine pm_e_sim pm_a206_137 rfl ?_
                show pm_E _ _ _ 138 [(0, .ref 18), (1, .int (iI x)), (2, .int (iI y)), (3, .int (iI (w + (-1)))), (4, .int (iI r1)), (5, .int (iI r2)), (6, .int (iI 1)), (7, .int (iI r2))] [.ref 18, .int (iI (w + (-1))), .ref 38] _ _ _ _
                refine pm_i_get pm_a206_138 rfl (mh_get (j := 0) hA rfl) rfl ?_
                show pm_E _ _ _ 141 [(0, .ref 18), (1, .int (iI x)), (2, .int (iI y)), (3, .int (iI (w + (-1)))), (4, .int (iI r1)), (5, .int (iI r2)), (6, .int (iI 1)), (7, .int (iI r2))] [.ref 36, .int (iI (w + (-1))), .ref 38] _ _ _ _
                refine pm_e_sim pm_a206_141 rfl ?_
                show pm_E _ _ _ 143 [(0, .ref 18), (1, .int (iI x)), (2, .int (iI y)), (3, .int (iI (w + (-1)))), (4, .int (iI r1)), (5, .int (iI r2)), (6, .int (iI 1)), (7, .int (iI r2))] [.int (iI r1), .ref 36, .int (iI (w + (-1))), .ref 38] _ _ _ _
                refine pm_i_ald pm_a206_143 (mh_get (j := 18) hA rfl) (by omega) (by omega) ⟨by omega, by omega⟩ ?_
                show pm_E _ _ _ 144 [(0, .ref 18), (1, .int (iI x)), (2, .int (iI y)), (3, .int (iI (w + (-1)))), (4, .int (iI r1)), (5, .int (iI r2)), (6, .int (iI 1)), (7, .int (iI r2))] [.int (iI ((a 18) (r1))), .int (iI (w + (-1))), .ref 38] _ _ _ _
                refine pm_i_ast pm_a206_144 (mh_get (j := 20) hA rfl) (by omega) (by omega) ⟨by omega, by omega⟩ (ma_20 hA _) ?_
                show pm_E _ _ _ 145 [(0, .ref 18), (1, .int (iI x)), (2, .int (iI y)), (3, .int (iI (w + (-1)))), (4, .int (iI r1)), (5, .int (iI r2)), (6, .int (iI 1)), (7, .int (iI r2))] [] _ _ _ _
                refine pm_e_sim pm_a206_145 rfl ?_
                show pm_E _ _ _ 146 [(0, .ref 18), (1, .int (iI x)), (2, .int (iI y)), (3, .int (iI (w + (-1)))), (4, .int (iI r1)), (5, .int (iI r2)), (6, .int (iI 1)), (7, .int (iI r2))] [.ref 18] _ _ _ _
                refine pm_i_get pm_a206_146 rfl (mh_get (j := 0) hA rfl) rfl ?_
                show pm_E _ _ _ 149 [(0, .ref 18), (1, .int (iI x)), (2, .int (iI y)), (3, .int (iI (w + (-1)))), (4, .int (iI r1)), (5, .int (iI r2)), (6, .int (iI 1)), (7, .int (iI r2))] [.ref 39] _ _ _ _
                refine pm_e_sim pm_a206_149 rfl ?_
                show pm_E _ _ _ 150 [(0, .ref 18), (1, .int (iI x)), (2, .int (iI y)), (3, .int (iI (w + (-1)))), (4, .int (iI r1)), (5, .int (iI r2)), (6, .int (iI 1)), (7, .int (iI r2))] [.int (iI (w + (-1))), .ref 39] _ _ _ _
                refine pm_e_sim pm_a206_150 rfl ?_
                show pm_E _ _ _ 151 [(0, .ref 18), (1, .int (iI x)), (2, .int (iI y)), (3, .int (iI (w + (-1)))), (4, .int (iI r1)), (5, .int (iI r2)), (6, .int (iI 1)), (7, .int (iI r2))] [.ref 18, .int (iI (w + (-1))), .ref 39] _ _ _ _
                refine pm_i_get pm_a206_151 rfl (mh_get (j := 0) hA rfl) rfl ?_
                show pm_E _ _ _ 154 [(0, .ref 18), (1, .int (iI x)), (2, .int (iI y)), (3, .int (iI (w + (-1)))), (4, .int (iI r1)), (5, .int (iI r2)), (6, .int (iI 1)), (7, .int (iI r2))] [.ref 36, .int (iI (w + (-1))), .ref 39] _ _ _ _
                refine pm_e_sim pm_a206_154 rfl ?_
                show pm_E _ _ _ 156 [(0, .ref 18), (1, .int (iI x)), (2, .int (iI y)), (3, .int (iI (w + (-1)))), (4, .int (iI r1)), (5, .int (iI r2)), (6, .int (iI 1)), (7, .int (iI r2))] [.int (iI r2), .ref 36, .int (iI (w + (-1))), .ref 39] _ _ _ _
                refine pm_i_ald pm_a206_156 (mh_get (j := 18) hA rfl) (by omega) (by omega) ⟨by omega, by omega⟩ ?_
                show pm_E _ _ _ 157 [(0, .ref 18), (1, .int (iI x)), (2, .int (iI y)), (3, .int (iI (w + (-1)))), (4, .int (iI r1)), (5, .int (iI r2)), (6, .int (iI 1)), (7, .int (iI r2))] [.int (iI ((a 18) (r2))), .int (iI (w + (-1))), .ref 39] _ _ _ _
                refine pm_i_ast pm_a206_157 (mh_get (j := 21) hA rfl) (by omega) (by omega) ⟨by omega, by omega⟩ (ma_21 hA _) ?_
                show pm_E _ _ _ 158 [(0, .ref 18), (1, .int (iI x)), (2, .int (iI y)), (3, .int (iI (w + (-1)))), (4, .int (iI r1)), (5, .int (iI r2)), (6, .int (iI 1)), (7, .int (iI r2))] [] _ _ _ _
                refine pm_e_sim pm_a206_158 rfl ?_
                show pm_E _ _ _ 159 [(0, .ref 18), (1, .int (iI x)), (2, .int (iI y)), (3, .int (iI (w + (-1)))), (4, .int (iI r1)), (5, .int (iI r2)), (6, .int (iI 1)), (7, .int (iI r2))] [.ref 18] _ _ _ _
                refine pm_i_get pm_a206_159 rfl (mh_get (j := 0) hA rfl) rfl ?_
                show pm_E _ _ _ 162 [(0, .ref 18), (1, .int (iI x)), (2, .int (iI y)), (3, .int (iI (w + (-1)))), (4, .int (iI r1)), (5, .int (iI r2)), (6, .int (iI 1)), (7, .int (iI r2))] [.ref 38] _ _ _ _
                refine pm_e_sim pm_a206_162 rfl ?_
                show pm_E _ _ _ 163 [(0, .ref 18), (1, .int (iI x)), (2, .int (iI y)), (3, .int (iI (w + (-1)))), (4, .int (iI r1)), (5, .int (iI r2)), (6, .int (iI 1)), (7, .int (iI r2))] [.int (iI (w + (-1))), .ref 38] _ _ _ _
                refine pm_e_sim pm_a206_163 rfl ?_
                refine pm_e_top (y := iI 1) (by decide +kernel) ?_
                show pm_E _ _ _ 164 [(0, .ref 18), (1, .int (iI x)), (2, .int (iI y)), (3, .int (iI (w + (-1)))), (4, .int (iI r1)), (5, .int (iI r2)), (6, .int (iI 1)), (7, .int (iI r2))] [.int (iI 1), .int (iI (w + (-1))), .ref 38] _ _ _ _
                refine pm_e_sim pm_a206_164 rfl ?_
                refine pm_e_top (y := iI (w + (-1) + 1)) (iI_add _ _) ?_
                show pm_E _ _ _ 165 [(0, .ref 18), (1, .int (iI x)), (2, .int (iI y)), (3, .int (iI (w + (-1)))), (4, .int (iI r1)), (5, .int (iI r2)), (6, .int (iI 1)), (7, .int (iI r2))] [.int (iI (w + (-1) + 1)), .ref 38] _ _ _ _
                refine pm_e_sim pm_a206_165 rfl ?_
                show pm_E _ _ _ 166 [(0, .ref 18), (1, .int (iI x)), (2, .int (iI y)), (3, .int (iI (w + (-1)))), (4, .int (iI r1)), (5, .int (iI r2)), (6, .int (iI 1)), (7, .int (iI r2))] [.ref 18, .int (iI (w + (-1) + 1)), .ref 38] _ _ _ _
                refine pm_i_get pm_a206_166 rfl (mh_get (j := 0) hA rfl) rfl ?_
                show pm_E _ _ _ 169 [(0, .ref 18), (1, .int (iI x)), (2, .int (iI y)), (3, .int (iI (w + (-1)))), (4, .int (iI r1)), (5, .int (iI r2)), (6, .int (iI 1)), (7, .int (iI r2))] [.ref 37, .int (iI (w + (-1) + 1)), .ref 38] _ _ _ _
                refine pm_e_sim pm_a206_169 rfl ?_
                show pm_E _ _ _ 171 [(0, .ref 18), (1, .int (iI x)), (2, .int (iI y)), (3, .int (iI (w + (-1)))), (4, .int (iI r1)), (5, .int (iI r2)), (6, .int (iI 1)), (7, .int (iI r2))] [.int (iI r1), .ref 37, .int (iI (w + (-1) + 1)), .ref 38] _ _ _ _
                refine pm_i_ald pm_a206_171 (mh_get (j := 19) hA rfl) (by omega) (by omega) ⟨by omega, by omega⟩ ?_
                show pm_E _ _ _ 172 [(0, .ref 18), (1, .int (iI x)), (2, .int (iI y)), (3, .int (iI (w + (-1)))), (4, .int (iI r1)), (5, .int (iI r2)), (6, .int (iI 1)), (7, .int (iI r2))] [.int (iI ((a 19) (r1))), .int (iI (w + (-1) + 1)), .ref 38] _ _ _ _
                refine pm_i_ast pm_a206_172 (mh_get (j := 20) hA rfl) (by omega) (by omega) ⟨by omega, by omega⟩ (ma_20 hA _) ?_
                show pm_E _ _ _ 173 [(0, .ref 18), (1, .int (iI x)), (2, .int (iI y)), (3, .int (iI (w + (-1)))), (4, .int (iI r1)), (5, .int (iI r2)), (6, .int (iI 1)), (7, .int (iI r2))] [] _ _ _ _
                refine pm_e_sim pm_a206_173 rfl ?_
                show pm_E _ _ _ 174 [(0, .ref 18), (1, .int (iI x)), (2, .int (iI y)), (3, .int (iI (w + (-1)))), (4, .int (iI r1)), (5, .int (iI r2)), (6, .int (iI 1)), (7, .int (iI r2))] [.ref 18] _ _ _ _
                refine pm_i_get pm_a206_174 rfl (mh_get (j := 0) hA rfl) rfl ?_
                show pm_E _ _ _ 177 [(0, .ref 18), (1, .int (iI x)), (2, .int (iI y)), (3, .int (iI (w + (-1)))), (4, .int (iI r1)), (5, .int (iI r2)), (6, .int (iI 1)), (7, .int (iI r2))] [.ref 39] _ _ _ _
                refine pm_e_sim pm_a206_177 rfl ?_
                show pm_E _ _ _ 178 [(0, .ref 18), (1, .int (iI x)), (2, .int (iI y)), (3, .int (iI (w + (-1)))), (4, .int (iI r1)), (5, .int (iI r2)), (6, .int (iI 1)), (7, .int (iI r2))] [.int (iI (w + (-1))), .ref 39] _ _ _ _
                refine pm_e_sim pm_a206_178 rfl ?_
                refine pm_e_top (y := iI 1) (by decide +kernel) ?_
                show pm_E _ _ _ 179 [(0, .ref 18), (1, .int (iI x)), (2, .int (iI y)), (3, .int (iI (w + (-1)))), (4, .int (iI r1)), (5, .int (iI r2)), (6, .int (iI 1)), (7, .int (iI r2))] [.int (iI 1), .int (iI (w + (-1))), .ref 39] _ _ _ _
                refine pm_e_sim pm_a206_179 rfl ?_
                refine pm_e_top (y := iI (w + (-1) + 1)) (iI_add _ _) ?_
                show pm_E _ _ _ 180 [(0, .ref 18), (1, .int (iI x)), (2, .int (iI y)), (3, .int (iI (w + (-1)))), (4, .int (iI r1)), (5, .int (iI r2)), (6, .int (iI 1)), (7, .int (iI r2))] [.int (iI (w + (-1) + 1)), .ref 39] _ _ _ _
                refine pm_e_sim pm_a206_180 rfl ?_
                show pm_E _ _ _ 181 [(0, .ref 18), (1, .int (iI x)), (2, .int (iI y)), (3, .int (iI (w + (-1)))), (4, .int (iI r1)), (5, .int (iI r2)), (6, .int (iI 1)), (7, .int (iI r2))] [.ref 18, .int (iI (w + (-1) + 1)), .ref 39] _ _ _ _
                refine pm_i_get pm_a206_181 rfl (mh_get (j := 0) hA rfl) rfl ?_
                show pm_E _ _ _ 184 [(0, .ref 18), (1, .int (iI x)), (2, .int (iI y)), (3, .int (iI (w + (-1)))), (4, .int (iI r1)), (5, .int (iI r2)), (6, .int (iI 1)), (7, .int (iI r2))] [.ref 37, .int (iI (w + (-1) + 1)), .ref 39] _ _ _ _
                refine pm_e_sim pm_a206_184 rfl ?_
                show pm_E _ _ _ 186 [(0, .ref 18), (1, .int (iI x)), (2, .int (iI y)), (3, .int (iI (w + (-1)))), (4, .int (iI r1)), (5, .int (iI r2)), (6, .int (iI 1)), (7, .int (iI r2))] [.int (iI r2), .ref 37, .int (iI (w + (-1) + 1)), .ref 39] _ _ _ _
                refine pm_i_ald pm_a206_186 (mh_get (j := 19) hA rfl) (by omega) (by omega) ⟨by omega, by omega⟩ ?_
                show pm_E _ _ _ 187 [(0, .ref 18), (1, .int (iI x)), (2, .int (iI y)), (3, .int (iI (w + (-1)))), (4, .int (iI r1)), (5, .int (iI r2)), (6, .int (iI 1)), (7, .int (iI r2))] [.int (iI ((a 19) (r2))), .int (iI (w + (-1) + 1)), .ref 39] _ _ _ _
                refine pm_i_ast pm_a206_187 (mh_get (j := 21) hA rfl) (by omega) (by omega) ⟨by omega, by omega⟩ (ma_21 hA _) ?_
                show pm_E _ _ _ 188 [(0, .ref 18), (1, .int (iI x)), (2, .int (iI y)), (3, .int (iI (w + (-1)))), (4, .int (iI r1)), (5, .int (iI r2)), (6, .int (iI 1)), (7, .int (iI r2))] [] _ _ _ _
                refine pm_e_inc (y := iI (w + (-1) + 2)) pm_a206_188 rfl (iI_add _ _) (by decide +kernel) rfl ?_
                show pm_E _ _ _ 191 [(0, .ref 18), (1, .int (iI x)), (2, .int (iI y)), (3, .int (iI (w + (-1) + 2))), (4, .int (iI r1)), (5, .int (iI r2)), (6, .int (iI 1)), (7, .int (iI r2))] [] _ _ _ _
                refine pm_e_goto pm_a206_191 rfl ?_
                show pm_E _ _ _ 16 [(0, .ref 18), (1, .int (iI x)), (2, .int (iI y)), (3, .int (iI (w + (-1) + 2))), (4, .int (iI r1)), (5, .int (iI r2)), (6, .int (iI 1)), (7, .int (iI r2))] [] _ _ _ _
                show pm_E _ _ _ 16 ([(0, .ref 18), (1, .int (iI x)), (2, .int (iI y)), (3, .int (iI (w + (-1) + 2)))] ++ [(4, .int (iI r1)), (5, .int (iI r2)), (6, .int (iI 1)), (7, .int (iI r2))]) [] _ _ _ _
                refine pm_e_more [(4, .int (iI r1)), (5, .int (iI r2)), (6, .int (iI 1)), (7, .int (iI r2))] (show ([0, 1, 2, 3, 4, 5, 6, 7] : List Nat).Nodup from by decide) ?_
                have hF2 := FI_link hF (g := r2) (y := r2) (by omega) (by omega) (by omega) (by omega) (by omega)
                have hcn := cnb_up (B := a 17) (g := r2) (y := r2) (by omega) (by omega) (n := (s 32).toNat) (by omega) (by omega)
                have hcl := cnb_le (B := updI (a 17) r2 r2) (n := (s 32).toNat)
                refine ih (w + -1 + 2) _ (by omega) (fun j h1 h2 h3 => by simp [updA, h1, h2, h3, fA j h1 h2 h3]) hF2 (fun j z y => ?_) ?_ k ?_
                · have h9 := hw j
                  show (0 ≤ updI (updI (a 20) (w + -1) _) (w + -1 + 1) _ j ∧ updI (updI (a 20) (w + -1) _) (w + -1 + 1) _ j < s 32) ∧ (0 ≤ updI (updI (a 21) (w + -1) _) (w + -1 + 1) _ j ∧ updI (updI (a 21) (w + -1) _) (w + -1 + 1) _ j < s 32)
                  unfold updI
                  repeat' split
                  all_goals omega
                · show w + -1 + 2 ≤ 1 + cnb (updI (a 17) r2 r2) _; omega
                · show 2 * (s 32 - cnb (updI (a 17) r2 r2) _) + (w + -1 + 2) < _; omega
            · skip
              show pm_E _ _ _ 97 [(0, .ref 18), (1, .int (iI x)), (2, .int (iI y)), (3, .int (iI (w + (-1)))), (4, .int (iI r1)), (5, .int (iI r2)), (6, .int (iI 1))] [] _ _ _ _
              refine pm_e_sim pm_a206_97 rfl ?_
              show pm_E _ _ _ 99 [(0, .ref 18), (1, .int (iI x)), (2, .int (iI y)), (3, .int (iI (w + (-1)))), (4, .int (iI r1)), (5, .int (iI r2)), (6, .int (iI 1))] [.int (iI r1)] _ _ _ _
              refine pm_e_goto pm_a206_99 rfl ?_
              show pm_E _ _ _ 104 [(0, .ref 18), (1, .int (iI x)), (2, .int (iI y)), (3, .int (iI (w + (-1)))), (4, .int (iI r1)), (5, .int (iI r2)), (6, .int (iI 1))] [.int (iI r1)] _ _ _ _
              refine pm_e_sim pm_a206_104 rfl ?_
              show pm_E _ _ _ 106 [(0, .ref 18), (1, .int (iI x)), (2, .int (iI y)), (3, .int (iI (w + (-1)))), (4, .int (iI r1)), (5, .int (iI r2)), (6, .int (iI 1)), (7, .int (iI r1))] [] _ _ _ _
              refine pm_e_sim pm_a206_106 rfl ?_
              show pm_E _ _ _ 107 [(0, .ref 18), (1, .int (iI x)), (2, .int (iI y)), (3, .int (iI (w + (-1)))), (4, .int (iI r1)), (5, .int (iI r2)), (6, .int (iI 1)), (7, .int (iI r1))] [.ref 18] _ _ _ _
              refine pm_i_get pm_a206_107 rfl (mh_get (j := 0) hA rfl) rfl ?_
              show pm_E _ _ _ 110 [(0, .ref 18), (1, .int (iI x)), (2, .int (iI y)), (3, .int (iI (w + (-1)))), (4, .int (iI r1)), (5, .int (iI r2)), (6, .int (iI 1)), (7, .int (iI r1))] [.ref 35] _ _ _ _
              refine pm_e_sim pm_a206_110 rfl ?_
              show pm_E _ _ _ 112 [(0, .ref 18), (1, .int (iI x)), (2, .int (iI y)), (3, .int (iI (w + (-1)))), (4, .int (iI r1)), (5, .int (iI r2)), (6, .int (iI 1)), (7, .int (iI r1))] [.int (iI r1), .ref 35] _ _ _ _
              refine pm_e_sim pm_a206_112 rfl ?_
              show pm_E _ _ _ 114 [(0, .ref 18), (1, .int (iI x)), (2, .int (iI y)), (3, .int (iI (w + (-1)))), (4, .int (iI r1)), (5, .int (iI r2)), (6, .int (iI 1)), (7, .int (iI r1))] [.int (iI r1), .int (iI r1), .ref 35] _ _ _ _
              refine pm_e_sim pm_a206_114 rfl ?_
              show pm_E _ _ _ 116 [(0, .ref 18), (1, .int (iI x)), (2, .int (iI y)), (3, .int (iI (w + (-1)))), (4, .int (iI r1)), (5, .int (iI r2)), (6, .int (iI 1)), (7, .int (iI r1))] [.int (iI r1), .int (iI r1), .int (iI r1), .ref 35] _ _ _ _
              refine pm_c_ne (t := 124) pm_a206_116 rfl ⟨by omega, by omega⟩ ⟨by omega, by omega⟩ (fun h_13 => ?_) (fun h_13 => ?_)
              · skip
                show pm_E _ _ _ 124 [(0, .ref 18), (1, .int (iI x)), (2, .int (iI y)), (3, .int (iI (w + (-1)))), (4, .int (iI r1)), (5, .int (iI r2)), (6, .int (iI 1)), (7, .int (iI r1))] [.int (iI r1), .ref 35] _ _ _ _
                refine pm_e_sim pm_a206_124 rfl ?_
                show pm_E _ _ _ 126 [(0, .ref 18), (1, .int (iI x)), (2, .int (iI y)), (3, .int (iI (w + (-1)))), (4, .int (iI r1)), (5, .int (iI r2)), (6, .int (iI 1)), (7, .int (iI r1))] [.int (iI r1), .int (iI r1), .ref 35] _ _ _ _
                refine pm_i_ast pm_a206_126 (mh_get (j := 17) hA rfl) (by omega) (by omega) ⟨by omega, by omega⟩ (ma_17 hA _) ?_
                show pm_E _ _ _ 127 [(0, .ref 18), (1, .int (iI x)), (2, .int (iI y)), (3, .int (iI (w + (-1)))), (4, .int (iI r1)), (5, .int (iI r2)), (6, .int (iI 1)), (7, .int (iI r1))] [] _ _ _ _
                refine pm_e_sim pm_a206_127 rfl ?_
                show pm_E _ _ _ 129 [(0, .ref 18), (1, .int (iI x)), (2, .int (iI y)), (3, .int (iI (w + (-1)))), (4, .int (iI r1)), (5, .int (iI r2)), (6, .int (iI 1)), (7, .int (iI r1))] [.int (iI 1)] _ _ _ _
                refine pm_e_iff pm_a206_129 rfl (by decide +kernel) ?_
                show pm_E _ _ _ 132 [(0, .ref 18), (1, .int (iI x)), (2, .int (iI y)), (3, .int (iI (w + (-1)))), (4, .int (iI r1)), (5, .int (iI r2)), (6, .int (iI 1)), (7, .int (iI r1))] [] _ _ _ _
                refine pm_e_sim pm_a206_132 rfl ?_
                show pm_E _ _ _ 133 [(0, .ref 18), (1, .int (iI x)), (2, .int (iI y)), (3, .int (iI (w + (-1)))), (4, .int (iI r1)), (5, .int (iI r2)), (6, .int (iI 1)), (7, .int (iI r1))] [.ref 18] _ _ _ _
                refine pm_i_get pm_a206_133 rfl (mh_get (j := 0) hA rfl) rfl ?_
                show pm_E _ _ _ 136 [(0, .ref 18), (1, .int (iI x)), (2, .int (iI y)), (3, .int (iI (w + (-1)))), (4, .int (iI r1)), (5, .int (iI r2)), (6, .int (iI 1)), (7, .int (iI r1))] [.ref 38] _ _ _ _
                refine pm_e_sim pm_a206_136 rfl ?_
                show pm_E _ _ _ 137 [(0, .ref 18), (1, .int (iI x)), (2, .int (iI y)), (3, .int (iI (w + (-1)))), (4, .int (iI r1)), (5, .int (iI r2)), (6, .int (iI 1)), (7, .int (iI r1))] [.int (iI (w + (-1))), .ref 38] _ _ _ _
                refine pm_e_sim pm_a206_137 rfl ?_
                show pm_E _ _ _ 138 [(0, .ref 18), (1, .int (iI x)), (2, .int (iI y)), (3, .int (iI (w + (-1)))), (4, .int (iI r1)), (5, .int (iI r2)), (6, .int (iI 1)), (7, .int (iI r1))] [.ref 18, .int (iI (w + (-1))), .ref 38] _ _ _ _
                refine pm_i_get pm_a206_138 rfl (mh_get (j := 0) hA rfl) rfl ?_
                show pm_E _ _ _ 141 [(0, .ref 18), (1, .int (iI x)), (2, .int (iI y)), (3, .int (iI (w + (-1)))), (4, .int (iI r1)), (5, .int (iI r2)), (6, .int (iI 1)), (7, .int (iI r1))] [.ref 36, .int (iI (w + (-1))), .ref 38] _ _ _ _
                refine pm_e_sim pm_a206_141 rfl ?_
                show pm_E _ _ _ 143 [(0, .ref 18), (1, .int (iI x)), (2, .int (iI y)), (3, .int (iI (w + (-1)))), (4, .int (iI r1)), (5, .int (iI r2)), (6, .int (iI 1)), (7, .int (iI r1))] [.int (iI r1), .ref 36, .int (iI (w + (-1))), .ref 38] _ _ _ _
                refine pm_i_ald pm_a206_143 (mh_get (j := 18) hA rfl) (by omega) (by omega) ⟨by omega, by omega⟩ ?_
                show pm_E _ _ _ 144 [(0, .ref 18), (1, .int (iI x)), (2, .int (iI y)), (3, .int (iI (w + (-1)))), (4, .int (iI r1)), (5, .int (iI r2)), (6, .int (iI 1)), (7, .int (iI r1))] [.int (iI ((a 18) (r1))), .int (iI (w + (-1))), .ref 38] _ _ _ _
                refine pm_i_ast pm_a206_144 (mh_get (j := 20) hA rfl) (by omega) (by omega) ⟨by omega, by omega⟩ (ma_20 hA _) ?_
                show pm_E _ _ _ 145 [(0, .ref 18), (1, .int (iI x)), (2, .int (iI y)), (3, .int (iI (w + (-1)))), (4, .int (iI r1)), (5, .int (iI r2)), (6, .int (iI 1)), (7, .int (iI r1))] [] _ _ _ _
                refine pm_e_sim pm_a206_145 rfl ?_
                show pm_E _ _ _ 146 [(0, .ref 18), (1, .int (iI x)), (2, .int (iI y)), (3, .int (iI (w + (-1)))), (4, .int (iI r1)), (5, .int (iI r2)), (6, .int (iI 1)), (7, .int (iI r1))] [.ref 18] _ _ _ _
                refine pm_i_get pm_a206_146 rfl (mh_get (j := 0) hA rfl) rfl ?_
                show pm_E _ _ _ 149 [(0, .ref 18), (1, .int (iI x)), (2, .int (iI y)), (3, .int (iI (w + (-1)))), (4, .int (iI r1)), (5, .int (iI r2)), (6, .int (iI 1)), (7, .int (iI r1))] [.ref 39] _ _ _ _
                refine pm_e_sim pm_a206_149 rfl ?_
                show pm_E _ _ _ 150 [(0, .ref 18), (1, .int (iI x)), (2, .int (iI y)), (3, .int (iI (w + (-1)))), (4, .int (iI r1)), (5, .int (iI r2)), (6, .int (iI 1)), (7, .int (iI r1))] [.int (iI (w + (-1))), .ref 39] _ _ _ _
                refine pm_e_sim pm_a206_150 rfl ?_
                show pm_E _ _ _ 151 [(0, .ref 18), (1, .int (iI x)), (2, .int (iI y)), (3, .int (iI (w + (-1)))), (4, .int (iI r1)), (5, .int (iI r2)), (6, .int (iI 1)), (7, .int (iI r1))] [.ref 18, .int (iI (w + (-1))), .ref 39] _ _ _ _
                refine pm_i_get pm_a206_151 rfl (mh_get (j := 0) hA rfl) rfl ?_
                show pm_E _ _ _ 154 [(0, .ref 18), (1, .int (iI x)), (2, .int (iI y)), (3, .int (iI (w + (-1)))), (4, .int (iI r1)), (5, .int (iI r2)), (6, .int (iI 1)), (7, .int (iI r1))] [.ref 36, .int (iI (w + (-1))), .ref 39] _ _ _ _
                refine pm_e_sim pm_a206_154 rfl ?_
                show pm_E _ _ _ 156 [(0, .ref 18), (1, .int (iI x)), (2, .int (iI y)), (3, .int (iI (w + (-1)))), (4, .int (iI r1)), (5, .int (iI r2)), (6, .int (iI 1)), (7, .int (iI r1))] [.int (iI r2), .ref 36, .int (iI (w + (-1))), .ref 39] _ _ _ _
                refine pm_i_ald pm_a206_156 (mh_get (j := 18) hA rfl) (by omega) (by omega) ⟨by omega, by omega⟩ ?_
                show pm_E _ _ _ 157 [(0, .ref 18), (1, .int (iI x)), (2, .int (iI y)), (3, .int (iI (w + (-1)))), (4, .int (iI r1)), (5, .int (iI r2)), (6, .int (iI 1)), (7, .int (iI r1))] [.int (iI ((a 18) (r2))), .int (iI (w + (-1))), .ref 39] _ _ _ _
                refine pm_i_ast pm_a206_157 (mh_get (j := 21) hA rfl) (by omega) (by omega) ⟨by omega, by omega⟩ (ma_21 hA _) ?_
                show pm_E _ _ _ 158 [(0, .ref 18), (1, .int (iI x)), (2, .int (iI y)), (3, .int (iI (w + (-1)))), (4, .int (iI r1)), (5, .int (iI r2)), (6, .int (iI 1)), (7, .int (iI r1))] [] _ _ _ _
                refine pm_e_sim pm_a206_158 rfl ?_
                show pm_E _ _ _ 159 [(0, .ref 18), (1, .int (iI x)), (2, .int (iI y)), (3, .int (iI (w + (-1)))), (4, .int (iI r1)), (5, .int (iI r2)), (6, .int (iI 1)), (7, .int (iI r1))] [.ref 18] _ _ _ _
                refine pm_i_get pm_a206_159 rfl (mh_get (j := 0) hA rfl) rfl ?_
                show pm_E _ _ _ 162 [(0, .ref 18), (1, .int (iI x)), (2, .int (iI y)), (3, .int (iI (w + (-1)))), (4, .int (iI r1)), (5, .int (iI r2)), (6, .int (iI 1)), (7, .int (iI r1))] [.ref 38] _ _ _ _
                refine pm_e_sim pm_a206_162 rfl ?_
                show pm_E _ _ _ 163 [(0, .ref 18), (1, .int (iI x)), (2, .int (iI y)), (3, .int (iI (w + (-1)))), (4, .int (iI r1)), (5, .int (iI r2)), (6, .int (iI 1)), (7, .int (iI r1))] [.int (iI (w + (-1))), .ref 38] _ _ _ _
                refine pm_e_sim pm_a206_163 rfl ?_
                refine pm_e_top (y := iI 1) (by decide +kernel) ?_
                show pm_E _ _ _ 164 [(0, .ref 18), (1, .int (iI x)), (2, .int (iI y)), (3, .int (iI (w + (-1)))), (4, .int (iI r1)), (5, .int (iI r2)), (6, .int (iI 1)), (7, .int (iI r1))] [.int (iI 1), .int (iI (w + (-1))), .ref 38] _ _ _ _
                refine pm_e_sim pm_a206_164 rfl ?_
                refine pm_e_top (y := iI (w + (-1) + 1)) (iI_add _ _) ?_
                show pm_E _ _ _ 165 [(0, .ref 18), (1, .int (iI x)), (2, .int (iI y)), (3, .int (iI (w + (-1)))), (4, .int (iI r1)), (5, .int (iI r2)), (6, .int (iI 1)), (7, .int (iI r1))] [.int (iI (w + (-1) + 1)), .ref 38] _ _ _ _
                refine pm_e_sim pm_a206_165 rfl ?_
                show pm_E _ _ _ 166 [(0, .ref 18), (1, .int (iI x)), (2, .int (iI y)), (3, .int (iI (w + (-1)))), (4, .int (iI r1)), (5, .int (iI r2)), (6, .int (iI 1)), (7, .int (iI r1))] [.ref 18, .int (iI (w + (-1) + 1)), .ref 38] _ _ _ _
                refine pm_i_get pm_a206_166 rfl (mh_get (j := 0) hA rfl) rfl ?_
                show pm_E _ _ _ 169 [(0, .ref 18), (1, .int (iI x)), (2, .int (iI y)), (3, .int (iI (w + (-1)))), (4, .int (iI r1)), (5, .int (iI r2)), (6, .int (iI 1)), (7, .int (iI r1))] [.ref 37, .int (iI (w + (-1) + 1)), .ref 38] _ _ _ _
                refine pm_e_sim pm_a206_169 rfl ?_
                show pm_E _ _ _ 171 [(0, .ref 18), (1, .int (iI x)), (2, .int (iI y)), (3, .int (iI (w + (-1)))), (4, .int (iI r1)), (5, .int (iI r2)), (6, .int (iI 1)), (7, .int (iI r1))] [.int (iI r1), .ref 37, .int (iI (w + (-1) + 1)), .ref 38] _ _ _ _
                refine pm_i_ald pm_a206_171 (mh_get (j := 19) hA rfl) (by omega) (by omega) ⟨by omega, by omega⟩ ?_
                show pm_E _ _ _ 172 [(0, .ref 18), (1, .int (iI x)), (2, .int (iI y)), (3, .int (iI (w + (-1)))), (4, .int (iI r1)), (5, .int (iI r2)), (6, .int (iI 1)), (7, .int (iI r1))] [.int (iI ((a 19) (r1))), .int (iI (w + (-1) + 1)), .ref 38] _ _ _ _
                refine pm_i_ast pm_a206_172 (mh_get (j := 20) hA rfl) (by omega) (by omega) ⟨by omega, by omega⟩ (ma_20 hA _) ?_
                show pm_E _ _ _ 173 [(0, .ref 18), (1, .int (iI x)), (2, .int (iI y)), (3, .int (iI (w + (-1)))), (4, .int (iI r1)), (5, .int (iI r2)), (6, .int (iI 1)), (7, .int (iI r1))] [] _ _ _ _
                refine pm_e_sim pm_a206_173 rfl ?_
                show pm_E _ _ _ 174 [(0, .ref 18), (1, .int (iI x)), (2, .int (iI y)), (3, .int (iI (w + (-1)))), (4, .int (iI r1)), (5, .int (iI r2)), (6, .int (iI 1)), (7, .int (iI r1))] [.ref 18] _ _ _ _
                refine pm_i_get pm_a206_174 rfl (mh_get (j := 0) hA rfl) rfl ?_
                show pm_E _ _ _ 177 [(0, .ref 18), (1, .int (iI x)), (2, .int (iI y)), (3, .int (iI (w + (-1)))), (4, .int (iI r1)), (5, .int (iI r2)), (6, .int (iI 1)), (7, .int (iI r1))] [.ref 39] _ _ _ _
                refine pm_e_sim pm_a206_177 rfl ?_
                show pm_E _ _ _ 178 [(0, .ref 18), (1, .int (iI x)), (2, .int (iI y)), (3, .int (iI (w + (-1)))), (4, .int (iI r1)), (5, .int (iI r2)), (6, .int (iI 1)), (7, .int (iI r1))] [.int (iI (w + (-1))), .ref 39] _ _ _ _
                refine pm_e_sim pm_a206_178 rfl ?_
                refine pm_e_top (y := iI 1) (by decide +kernel) ?_
                show pm_E _ _ _ 179 [(0, .ref 18), (1, .int (iI x)), (2, .int (iI y)), (3, .int (iI (w + (-1)))), (4, .int (iI r1)), (5, .int (iI r2)), (6, .int (iI 1)), (7, .int (iI r1))] [.int (iI 1), .int (iI (w + (-1))), .ref 39] _ _ _ _
                refine pm_e_sim pm_a206_179 rfl ?_
                refine pm_e_top (y := iI (w + (-1) + 1)) (iI_add _ _) ?_
                show pm_E _ _ _ 180 [(0, .ref 18), (1, .int (iI x)), (2, .int (iI y)), (3, .int (iI (w + (-1)))), (4, .int (iI r1)), (5, .int (iI r2)), (6, .int (iI 1)), (7, .int (iI r1))] [.int (iI (w + (-1) + 1)), .ref 39] _ _ _ _
                refine pm_e_sim pm_a206_180 rfl ?_
                show pm_E _ _ _ 181 [(0, .ref 18), (1, .int (iI x)), (2, .int (iI y)), (3, .int (iI (w + (-1)))), (4, .int (iI r1)), (5, .int (iI r2)), (6, .int (iI 1)), (7, .int (iI r1))] [.ref 18, .int (iI (w + (-1) + 1)), .ref 39] _ _ _ _
                refine pm_i_get pm_a206_181 rfl (mh_get (j := 0) hA rfl) rfl ?_
                show pm_E _ _ _ 184 [(0, .ref 18), (1, .int (iI x)), (2, .int (iI y)), (3, .int (iI (w + (-1)))), (4, .int (iI r1)), (5, .int (iI r2)), (6, .int (iI 1)), (7, .int (iI r1))] [.ref 37, .int (iI (w + (-1) + 1)), .ref 39] _ _ _ _
                refine pm_e_sim pm_a206_184 rfl ?_
                show pm_E _ _ _ 186 [(0, .ref 18), (1, .int (iI x)), (2, .int (iI y)), (3, .int (iI (w + (-1)))), (4, .int (iI r1)), (5, .int (iI r2)), (6, .int (iI 1)), (7, .int (iI r1))] [.int (iI r2), .ref 37, .int (iI (w + (-1) + 1)), .ref 39] _ _ _ _
                refine pm_i_ald pm_a206_186 (mh_get (j := 19) hA rfl) (by omega) (by omega) ⟨by omega, by omega⟩ ?_
                show pm_E _ _ _ 187 [(0, .ref 18), (1, .int (iI x)), (2, .int (iI y)), (3, .int (iI (w + (-1)))), (4, .int (iI r1)), (5, .int (iI r2)), (6, .int (iI 1)), (7, .int (iI r1))] [.int (iI ((a 19) (r2))), .int (iI (w + (-1) + 1)), .ref 39] _ _ _ _
                refine pm_i_ast pm_a206_187 (mh_get (j := 21) hA rfl) (by omega) (by omega) ⟨by omega, by omega⟩ (ma_21 hA _) ?_
                show pm_E _ _ _ 188 [(0, .ref 18), (1, .int (iI x)), (2, .int (iI y)), (3, .int (iI (w + (-1)))), (4, .int (iI r1)), (5, .int (iI r2)), (6, .int (iI 1)), (7, .int (iI r1))] [] _ _ _ _
                refine pm_e_inc (y := iI (w + (-1) + 2)) pm_a206_188 rfl (iI_add _ _) (by decide +kernel) rfl ?_
                show pm_E _ _ _ 191 [(0, .ref 18), (1, .int (iI x)), (2, .int (iI y)), (3, .int (iI (w + (-1) + 2))), (4, .int (iI r1)), (5, .int (iI r2)), (6, .int (iI 1)), (7, .int (iI r1))] [] _ _ _ _
                refine pm_e_goto pm_a206_191 rfl ?_
                show pm_E _ _ _ 16 [(0, .ref 18), (1, .int (iI x)), (2, .int (iI y)), (3, .int (iI (w + (-1) + 2))), (4, .int (iI r1)), (5, .int (iI r2)), (6, .int (iI 1)), (7, .int (iI r1))] [] _ _ _ _
                show pm_E _ _ _ 16 ([(0, .ref 18), (1, .int (iI x)), (2, .int (iI y)), (3, .int (iI (w + (-1) + 2)))] ++ [(4, .int (iI r1)), (5, .int (iI r2)), (6, .int (iI 1)), (7, .int (iI r1))]) [] _ _ _ _
                refine pm_e_more [(4, .int (iI r1)), (5, .int (iI r2)), (6, .int (iI 1)), (7, .int (iI r1))] (show ([0, 1, 2, 3, 4, 5, 6, 7] : List Nat).Nodup from by decide) ?_
                have hF2 := FI_link hF (g := r1) (y := r1) (by omega) (by omega) (by omega) (by omega) (by omega)
                have hcn := cnb_up (B := a 17) (g := r1) (y := r1) (by omega) (by omega) (n := (s 32).toNat) (by omega) (by omega)
                have hcl := cnb_le (B := updI (a 17) r1 r1) (n := (s 32).toNat)
                refine ih (w + -1 + 2) _ (by omega) (fun j h1 h2 h3 => by simp [updA, h1, h2, h3, fA j h1 h2 h3]) hF2 (fun j z y => ?_) ?_ k ?_
                · have h9 := hw j
                  show (0 ≤ updI (updI (a 20) (w + -1) _) (w + -1 + 1) _ j ∧ updI (updI (a 20) (w + -1) _) (w + -1 + 1) _ j < s 32) ∧ (0 ≤ updI (updI (a 21) (w + -1) _) (w + -1 + 1) _ j ∧ updI (updI (a 21) (w + -1) _) (w + -1 + 1) _ j < s 32)
                  unfold updI
                  repeat' split
                  all_goals omega
                · show w + -1 + 2 ≤ 1 + cnb (updI (a 17) r1 r1) _; omega
                · show 2 * (s 32 - cnb (updI (a 17) r1 r1) _) + (w + -1 + 2) < _; omega
              · skip
                show pm_E _ _ _ 119 [(0, .ref 18), (1, .int (iI x)), (2, .int (iI y)), (3, .int (iI (w + (-1)))), (4, .int (iI r1)), (5, .int (iI r2)), (6, .int (iI 1)), (7, .int (iI r1))] [.int (iI r1), .ref 35] _ _ _ _
                refine pm_e_sim pm_a206_119 rfl ?_
                show pm_E _ _ _ 121 [(0, .ref 18), (1, .int (iI x)), (2, .int (iI y)), (3, .int (iI (w + (-1)))), (4, .int (iI r1)), (5, .int (iI r2)), (6, .int (iI 1)), (7, .int (iI r1))] [.int (iI r2), .int (iI r1), .ref 35] _ _ _ _
                refine pm_e_goto pm_a206_121 rfl ?_
                show pm_E _ _ _ 126 [(0, .ref 18), (1, .int (iI x)), (2, .int (iI y)), (3, .int (iI (w + (-1)))), (4, .int (iI r1)), (5, .int (iI r2)), (6, .int (iI 1)), (7, .int (iI r1))] [.int (iI r2), .int (iI r1), .ref 35] _ _ _ _
                refine pm_i_ast pm_a206_126 (mh_get (j := 17) hA rfl) (by omega) (by omega) ⟨by omega, by omega⟩ (ma_17 hA _) ?_
                show pm_E _ _ _ 127 [(0, .ref 18), (1, .int (iI x)), (2, .int (iI y)), (3, .int (iI (w + (-1)))), (4, .int (iI r1)), (5, .int (iI r2)), (6, .int (iI 1)), (7, .int (iI r1))] [] _ _ _ _
                refine pm_e_sim pm_a206_127 rfl ?_
                show pm_E _ _ _ 129 [(0, .ref 18), (1, .int (iI x)), (2, .int (iI y)), (3, .int (iI (w + (-1)))), (4, .int (iI r1)), (5, .int (iI r2)), (6, .int (iI 1)), (7, .int (iI r1))] [.int (iI 1)] _ _ _ _
                refine pm_e_iff pm_a206_129 rfl (by decide +kernel) ?_
                show pm_E _ _ _ 132 [(0, .ref 18), (1, .int (iI x)), (2, .int (iI y)), (3, .int (iI (w + (-1)))), (4, .int (iI r1)), (5, .int (iI r2)), (6, .int (iI 1)), (7, .int (iI r1))] [] _ _ _ _
                refine pm_e_sim pm_a206_132 rfl ?_
                show pm_E _ _ _ 133 [(0, .ref 18), (1, .int (iI x)), (2, .int (iI y)), (3, .int (iI (w + (-1)))), (4, .int (iI r1)), (5, .int (iI r2)), (6, .int (iI 1)), (7, .int (iI r1))] [.ref 18] _ _ _ _
                refine pm_i_get pm_a206_133 rfl (mh_get (j := 0) hA rfl) rfl ?_
                show pm_E _ _ _ 136 [(0, .ref 18), (1, .int (iI x)), (2, .int (iI y)), (3, .int (iI (w + (-1)))), (4, .int (iI r1)), (5, .int (iI r2)), (6, .int (iI 1)), (7, .int (iI r1))] [.ref 38] _ _ _ _
                refine pm_e_sim pm_a206_136 rfl ?_
                show pm_E _ _ _ 137 [(0, .ref 18), (1, .int (iI x)), (2, .int (iI y)), (3, .int (iI (w + (-1)))), (4, .int (iI r1)), (5, .int (iI r2)), (6, .int (iI 1)), (7, .int (iI r1))] [.int (iI (w + (-1))), .ref 38] _ _ _ _
                refine pm_e_sim pm_a206_137 rfl ?_
                show pm_E _ _ _ 138 [(0, .ref 18), (1, .int (iI x)), (2, .int (iI y)), (3, .int (iI (w + (-1)))), (4, .int (iI r1)), (5, .int (iI r2)), (6, .int (iI 1)), (7, .int (iI r1))] [.ref 18, .int (iI (w + (-1))), .ref 38] _ _ _ _
                refine pm_i_get pm_a206_138 rfl (mh_get (j := 0) hA rfl) rfl ?_
                show pm_E _ _ _ 141 [(0, .ref 18), (1, .int (iI x)), (2, .int (iI y)), (3, .int (iI (w + (-1)))), (4, .int (iI r1)), (5, .int (iI r2)), (6, .int (iI 1)), (7, .int (iI r1))] [.ref 36, .int (iI (w + (-1))), .ref 38] _ _ _ _
                refine pm_e_sim pm_a206_141 rfl ?_
                show pm_E _ _ _ 143 [(0, .ref 18), (1, .int (iI x)), (2, .int (iI y)), (3, .int (iI (w + (-1)))), (4, .int (iI r1)), (5, .int (iI r2)), (6, .int (iI 1)), (7, .int (iI r1))] [.int (iI r1), .ref 36, .int (iI (w + (-1))), .ref 38] _ _ _ _
                refine pm_i_ald pm_a206_143 (mh_get (j := 18) hA rfl) (by omega) (by omega) ⟨by omega, by omega⟩ ?_
                show pm_E _ _ _ 144 [(0, .ref 18), (1, .int (iI x)), (2, .int (iI y)), (3, .int (iI (w + (-1)))), (4, .int (iI r1)), (5, .int (iI r2)), (6, .int (iI 1)), (7, .int (iI r1))] [.int (iI ((a 18) (r1))), .int (iI (w + (-1))), .ref 38] _ _ _ _
                refine pm_i_ast pm_a206_144 (mh_get (j := 20) hA rfl) (by omega) (by omega) ⟨by omega, by omega⟩ (ma_20 hA _) ?_
                show pm_E _ _ _ 145 [(0, .ref 18), (1, .int (iI x)), (2, .int (iI y)), (3, .int (iI (w + (-1)))), (4, .int (iI r1)), (5, .int (iI r2)), (6, .int (iI 1)), (7, .int (iI r1))] [] _ _ _ _
                refine pm_e_sim pm_a206_145 rfl ?_
                show pm_E _ _ _ 146 [(0, .ref 18), (1, .int (iI x)), (2, .int (iI y)), (3, .int (iI (w + (-1)))), (4, .int (iI r1)), (5, .int (iI r2)), (6, .int (iI 1)), (7, .int (iI r1))] [.ref 18] _ _ _ _
                refine pm_i_get pm_a206_146 rfl (mh_get (j := 0) hA rfl) rfl ?_
                show pm_E _ _ _ 149 [(0, .ref 18), (1, .int (iI x)), (2, .int (iI y)), (3, .int (iI (w + (-1)))), (4, .int (iI r1)), (5, .int (iI r2)), (6, .int (iI 1)), (7, .int (iI r1))] [.ref 39] _ _ _ _
                refine pm_e_sim pm_a206_149 rfl ?_
                show pm_E _ _ _ 150 [(0, .ref 18), (1, .int (iI x)), (2, .int (iI y)), (3, .int (iI (w + (-1)))), (4, .int (iI r1)), (5, .int (iI r2)), (6, .int (iI 1)), (7, .int (iI r1))] [.int (iI (w + (-1))), .ref 39] _ _ _ _
                refine pm_e_sim pm_a206_150 rfl ?_
                show pm_E _ _ _ 151 [(0, .ref 18), (1, .int (iI x)), (2, .int (iI y)), (3, .int (iI (w + (-1)))), (4, .int (iI r1)), (5, .int (iI r2)), (6, .int (iI 1)), (7, .int (iI r1))] [.ref 18, .int (iI (w + (-1))), .ref 39] _ _ _ _
                refine pm_i_get pm_a206_151 rfl (mh_get (j := 0) hA rfl) rfl ?_
                show pm_E _ _ _ 154 [(0, .ref 18), (1, .int (iI x)), (2, .int (iI y)), (3, .int (iI (w + (-1)))), (4, .int (iI r1)), (5, .int (iI r2)), (6, .int (iI 1)), (7, .int (iI r1))] [.ref 36, .int (iI (w + (-1))), .ref 39] _ _ _ _
                refine pm_e_sim pm_a206_154 rfl ?_
                show pm_E _ _ _ 156 [(0, .ref 18), (1, .int (iI x)), (2, .int (iI y)), (3, .int (iI (w + (-1)))), (4, .int (iI r1)), (5, .int (iI r2)), (6, .int (iI 1)), (7, .int (iI r1))] [.int (iI r2), .ref 36, .int (iI (w + (-1))), .ref 39] _ _ _ _
                refine pm_i_ald pm_a206_156 (mh_get (j := 18) hA rfl) (by omega) (by omega) ⟨by omega, by omega⟩ ?_
                show pm_E _ _ _ 157 [(0, .ref 18), (1, .int (iI x)), (2, .int (iI y)), (3, .int (iI (w + (-1)))), (4, .int (iI r1)), (5, .int (iI r2)), (6, .int (iI 1)), (7, .int (iI r1))] [.int (iI ((a 18) (r2))), .int (iI (w + (-1))), .ref 39] _ _ _ _
                refine pm_i_ast pm_a206_157 (mh_get (j := 21) hA rfl) (by omega) (by omega) ⟨by omega, by omega⟩ (ma_21 hA _) ?_
                show pm_E _ _ _ 158 [(0, .ref 18), (1, .int (iI x)), (2, .int (iI y)), (3, .int (iI (w + (-1)))), (4, .int (iI r1)), (5, .int (iI r2)), (6, .int (iI 1)), (7, .int (iI r1))] [] _ _ _ _
                refine pm_e_sim pm_a206_158 rfl ?_
                show pm_E _ _ _ 159 [(0, .ref 18), (1, .int (iI x)), (2, .int (iI y)), (3, .int (iI (w + (-1)))), (4, .int (iI r1)), (5, .int (iI r2)), (6, .int (iI 1)), (7, .int (iI r1))] [.ref 18] _ _ _ _
                refine pm_i_get pm_a206_159 rfl (mh_get (j := 0) hA rfl) rfl ?_
                show pm_E _ _ _ 162 [(0, .ref 18), (1, .int (iI x)), (2, .int (iI y)), (3, .int (iI (w + (-1)))), (4, .int (iI r1)), (5, .int (iI r2)), (6, .int (iI 1)), (7, .int (iI r1))] [.ref 38] _ _ _ _
                refine pm_e_sim pm_a206_162 rfl ?_
                show pm_E _ _ _ 163 [(0, .ref 18), (1, .int (iI x)), (2, .int (iI y)), (3, .int (iI (w + (-1)))), (4, .int (iI r1)), (5, .int (iI r2)), (6, .int (iI 1)), (7, .int (iI r1))] [.int (iI (w + (-1))), .ref 38] _ _ _ _
                refine pm_e_sim pm_a206_163 rfl ?_
                refine pm_e_top (y := iI 1) (by decide +kernel) ?_
                show pm_E _ _ _ 164 [(0, .ref 18), (1, .int (iI x)), (2, .int (iI y)), (3, .int (iI (w + (-1)))), (4, .int (iI r1)), (5, .int (iI r2)), (6, .int (iI 1)), (7, .int (iI r1))] [.int (iI 1), .int (iI (w + (-1))), .ref 38] _ _ _ _
                refine pm_e_sim pm_a206_164 rfl ?_
                refine pm_e_top (y := iI (w + (-1) + 1)) (iI_add _ _) ?_
                show pm_E _ _ _ 165 [(0, .ref 18), (1, .int (iI x)), (2, .int (iI y)), (3, .int (iI (w + (-1)))), (4, .int (iI r1)), (5, .int (iI r2)), (6, .int (iI 1)), (7, .int (iI r1))] [.int (iI (w + (-1) + 1)), .ref 38] _ _ _ _
                refine pm_e_sim pm_a206_165 rfl ?_
                show pm_E _ _ _ 166 [(0, .ref 18), (1, .int (iI x)), (2, .int (iI y)), (3, .int (iI (w + (-1)))), (4, .int (iI r1)), (5, .int (iI r2)), (6, .int (iI 1)), (7, .int (iI r1))] [.ref 18, .int (iI (w + (-1) + 1)), .ref 38] _ _ _ _
                refine pm_i_get pm_a206_166 rfl (mh_get (j := 0) hA rfl) rfl ?_
                show pm_E _ _ _ 169 [(0, .ref 18), (1, .int (iI x)), (2, .int (iI y)), (3, .int (iI (w + (-1)))), (4, .int (iI r1)), (5, .int (iI r2)), (6, .int (iI 1)), (7, .int (iI r1))] [.ref 37, .int (iI (w + (-1) + 1)), .ref 38] _ _ _ _
                refine pm_e_sim pm_a206_169 rfl ?_
                show pm_E _ _ _ 171 [(0, .ref 18), (1, .int (iI x)), (2, .int (iI y)), (3, .int (iI (w + (-1)))), (4, .int (iI r1)), (5, .int (iI r2)), (6, .int (iI 1)), (7, .int (iI r1))] [.int (iI r1), .ref 37, .int (iI (w + (-1) + 1)), .ref 38] _ _ _ _
                refine pm_i_ald pm_a206_171 (mh_get (j := 19) hA rfl) (by omega) (by omega) ⟨by omega, by omega⟩ ?_
                show pm_E _ _ _ 172 [(0, .ref 18), (1, .int (iI x)), (2, .int (iI y)), (3, .int (iI (w + (-1)))), (4, .int (iI r1)), (5, .int (iI r2)), (6, .int (iI 1)), (7, .int (iI r1))] [.int (iI ((a 19) (r1))), .int (iI (w + (-1) + 1)), .ref 38] _ _ _ _
                refine pm_i_ast pm_a206_172 (mh_get (j := 20) hA rfl) (by omega) (by omega) ⟨by omega, by omega⟩ (ma_20 hA _) ?_
                show pm_E _ _ _ 173 [(0, .ref 18), (1, .int (iI x)), (2, .int (iI y)), (3, .int (iI (w + (-1)))), (4, .int (iI r1)), (5, .int (iI r2)), (6, .int (iI 1)), (7, .int (iI r1))] [] _ _ _ _
                refine pm_e_sim pm_a206_173 rfl ?_
                show pm_E _ _ _ 174 [(0, .ref 18), (1, .int (iI x)), (2, .int (iI y)), (3, .int (iI (w + (-1)))), (4, .int (iI r1)), (5, .int (iI r2)), (6, .int (iI 1)), (7, .int (iI r1))] [.ref 18] _ _ _ _
                refine pm_i_get pm_a206_174 rfl (mh_get (j := 0) hA rfl) rfl ?_
                show pm_E _ _ _ 177 [(0, .ref 18), (1, .int (iI x)), (2, .int (iI y)), (3, .int (iI (w + (-1)))), (4, .int (iI r1)), (5, .int (iI r2)), (6, .int (iI 1)), (7, .int (iI r1))] [.ref 39] _ _ _ _
                refine pm_e_sim pm_a206_177 rfl ?_
                show pm_E _ _ _ 178 [(0, .ref 18), (1, .int (iI x)), (2, .int (iI y)), (3, .int (iI (w + (-1)))), (4, .int (iI r1)), (5, .int (iI r2)), (6, .int (iI 1)), (7, .int (iI r1))] [.int (iI (w + (-1))), .ref 39] _ _ _ _
                refine pm_e_sim pm_a206_178 rfl ?_
                refine pm_e_top (y := iI 1) (by decide +kernel) ?_
                show pm_E _ _ _ 179 [(0, .ref 18), (1, .int (iI x)), (2, .int (iI y)), (3, .int (iI (w + (-1)))), (4, .int (iI r1)), (5, .int (iI r2)), (6, .int (iI 1)), (7, .int (iI r1))] [.int (iI 1), .int (iI (w + (-1))), .ref 39] _ _ _ _
                refine pm_e_sim pm_a206_179 rfl ?_
                refine pm_e_top (y := iI (w + (-1) + 1)) (iI_add _ _) ?_
                show pm_E _ _ _ 180 [(0, .ref 18), (1, .int (iI x)), (2, .int (iI y)), (3, .int (iI (w + (-1)))), (4, .int (iI r1)), (5, .int (iI r2)), (6, .int (iI 1)), (7, .int (iI r1))] [.int (iI (w + (-1) + 1)), .ref 39] _ _ _ _
                refine pm_e_sim pm_a206_180 rfl ?_
                show pm_E _ _ _ 181 [(0, .ref 18), (1, .int (iI x)), (2, .int (iI y)), (3, .int (iI (w + (-1)))), (4, .int (iI r1)), (5, .int (iI r2)), (6, .int (iI 1)), (7, .int (iI r1))] [.ref 18, .int (iI (w + (-1) + 1)), .ref 39] _ _ _ _
                refine pm_i_get pm_a206_181 rfl (mh_get (j := 0) hA rfl) rfl ?_
                show pm_E _ _ _ 184 [(0, .ref 18), (1, .int (iI x)), (2, .int (iI y)), (3, .int (iI (w + (-1)))), (4, .int (iI r1)), (5, .int (iI r2)), (6, .int (iI 1)), (7, .int (iI r1))] [.ref 37, .int (iI (w + (-1) + 1)), .ref 39] _ _ _ _
                refine pm_e_sim pm_a206_184 rfl ?_
                show pm_E _ _ _ 186 [(0, .ref 18), (1, .int (iI x)), (2, .int (iI y)), (3, .int (iI (w + (-1)))), (4, .int (iI r1)), (5, .int (iI r2)), (6, .int (iI 1)), (7, .int (iI r1))] [.int (iI r2), .ref 37, .int (iI (w + (-1) + 1)), .ref 39] _ _ _ _
                refine pm_i_ald pm_a206_186 (mh_get (j := 19) hA rfl) (by omega) (by omega) ⟨by omega, by omega⟩ ?_
                show pm_E _ _ _ 187 [(0, .ref 18), (1, .int (iI x)), (2, .int (iI y)), (3, .int (iI (w + (-1)))), (4, .int (iI r1)), (5, .int (iI r2)), (6, .int (iI 1)), (7, .int (iI r1))] [.int (iI ((a 19) (r2))), .int (iI (w + (-1) + 1)), .ref 39] _ _ _ _
                refine pm_i_ast pm_a206_187 (mh_get (j := 21) hA rfl) (by omega) (by omega) ⟨by omega, by omega⟩ (ma_21 hA _) ?_
                show pm_E _ _ _ 188 [(0, .ref 18), (1, .int (iI x)), (2, .int (iI y)), (3, .int (iI (w + (-1)))), (4, .int (iI r1)), (5, .int (iI r2)), (6, .int (iI 1)), (7, .int (iI r1))] [] _ _ _ _
                refine pm_e_inc (y := iI (w + (-1) + 2)) pm_a206_188 rfl (iI_add _ _) (by decide +kernel) rfl ?_
                show pm_E _ _ _ 191 [(0, .ref 18), (1, .int (iI x)), (2, .int (iI y)), (3, .int (iI (w + (-1) + 2))), (4, .int (iI r1)), (5, .int (iI r2)), (6, .int (iI 1)), (7, .int (iI r1))] [] _ _ _ _
                refine pm_e_goto pm_a206_191 rfl ?_
                show pm_E _ _ _ 16 [(0, .ref 18), (1, .int (iI x)), (2, .int (iI y)), (3, .int (iI (w + (-1) + 2))), (4, .int (iI r1)), (5, .int (iI r2)), (6, .int (iI 1)), (7, .int (iI r1))] [] _ _ _ _
                show pm_E _ _ _ 16 ([(0, .ref 18), (1, .int (iI x)), (2, .int (iI y)), (3, .int (iI (w + (-1) + 2)))] ++ [(4, .int (iI r1)), (5, .int (iI r2)), (6, .int (iI 1)), (7, .int (iI r1))]) [] _ _ _ _
                refine pm_e_more [(4, .int (iI r1)), (5, .int (iI r2)), (6, .int (iI 1)), (7, .int (iI r1))] (show ([0, 1, 2, 3, 4, 5, 6, 7] : List Nat).Nodup from by decide) ?_
                have hF2 := FI_link hF (g := r1) (y := r2) (by omega) (by omega) (by omega) (by omega) (by omega)
                have hcn := cnb_up (B := a 17) (g := r1) (y := r2) (by omega) (by omega) (n := (s 32).toNat) (by omega) (by omega)
                have hcl := cnb_le (B := updI (a 17) r1 r2) (n := (s 32).toNat)
                refine ih (w + -1 + 2) _ (by omega) (fun j h1 h2 h3 => by simp [updA, h1, h2, h3, fA j h1 h2 h3]) hF2 (fun j z y => ?_) ?_ k ?_
                · have h9 := hw j
                  show (0 ≤ updI (updI (a 20) (w + -1) _) (w + -1 + 1) _ j ∧ updI (updI (a 20) (w + -1) _) (w + -1 + 1) _ j < s 32) ∧ (0 ≤ updI (updI (a 21) (w + -1) _) (w + -1 + 1) _ j ∧ updI (updI (a 21) (w + -1) _) (w + -1 + 1) _ j < s 32)
                  unfold updI
                  repeat' split
                  all_goals omega
                · show w + -1 + 2 ≤ 1 + cnb (updI (a 17) r1 r2) _; omega
                · show 2 * (s 32 - cnb (updI (a 17) r1 r2) _) + (w + -1 + 2) < _; omega
set_option maxHeartbeats 4000000 in
set_option maxRecDepth 100000 in
theorem M_unite {d : Nat} {A B : List va_E} {s : Nat → Int} {vl : Int64} {a : Nat → Int → Int} {nm : Nat → Int64} {Q : Option Value → List va_E → Nat → Nat → Prop} {x y : Int} (hA : A.length = 18) (hK : s 32 ≤ 9000) (hF : FI (a 17) (a 18) (a 19) (s 32)) (hx : 0 ≤ x ∧ x < s 32) (hy : 0 ≤ y ∧ y < s 32) (k : ∀ (a' : Nat → Int → Int), (∀ j, j ≠ 17 → j ≠ 20 → j ≠ 21 → a' j = a j) → FI (a' 17) (a' 18) (a' 19) (s 32) → Q none (mh A s vl a' nm B) 0 0) : pm_E none (d + 1) pm_mm206 0 [(0, .ref 18), (1, .int (iI x)), (2, .int (iI y))] [] (mh A s vl a nm B) 0 0 Q := by
  refine pm_e_sim pm_a206_0 rfl ?_
  refine pm_e_top (y := iI 1) (by decide +kernel) ?_
  show pm_E _ _ _ 1 [(0, .ref 18), (1, .int (iI x)), (2, .int (iI y))] [.int (iI 1)] _ _ _ _
  refine pm_e_sim pm_a206_1 rfl ?_
  show pm_E _ _ _ 2 [(0, .ref 18), (1, .int (iI x)), (2, .int (iI y)), (3, .int (iI 1))] [] _ _ _ _
  refine pm_e_sim pm_a206_2 rfl ?_
  show pm_E _ _ _ 3 [(0, .ref 18), (1, .int (iI x)), (2, .int (iI y)), (3, .int (iI 1))] [.ref 18] _ _ _ _
  refine pm_i_get pm_a206_3 rfl (mh_get (j := 0) hA rfl) rfl ?_
  show pm_E _ _ _ 6 [(0, .ref 18), (1, .int (iI x)), (2, .int (iI y)), (3, .int (iI 1))] [.ref 38] _ _ _ _
  refine pm_e_sim pm_a206_6 rfl ?_
  refine pm_e_top (y := iI 0) (by decide +kernel) ?_
  show pm_E _ _ _ 7 [(0, .ref 18), (1, .int (iI x)), (2, .int (iI y)), (3, .int (iI 1))] [.int (iI 0), .ref 38] _ _ _ _
  refine pm_e_sim pm_a206_7 rfl ?_
  show pm_E _ _ _ 8 [(0, .ref 18), (1, .int (iI x)), (2, .int (iI y)), (3, .int (iI 1))] [.int (iI x), .int (iI 0), .ref 38] _ _ _ _
  refine pm_i_ast pm_a206_8 (mh_get (j := 20) hA rfl) (by omega) (by omega) ⟨by omega, by omega⟩ (ma_20 hA _) ?_
  show pm_E _ _ _ 9 [(0, .ref 18), (1, .int (iI x)), (2, .int (iI y)), (3, .int (iI 1))] [] _ _ _ _
  refine pm_e_sim pm_a206_9 rfl ?_
  show pm_E _ _ _ 10 [(0, .ref 18), (1, .int (iI x)), (2, .int (iI y)), (3, .int (iI 1))] [.ref 18] _ _ _ _
  refine pm_i_get pm_a206_10 rfl (mh_get (j := 0) hA rfl) rfl ?_
  show pm_E _ _ _ 13 [(0, .ref 18), (1, .int (iI x)), (2, .int (iI y)), (3, .int (iI 1))] [.ref 39] _ _ _ _
  refine pm_e_sim pm_a206_13 rfl ?_
  refine pm_e_top (y := iI 0) (by decide +kernel) ?_
  show pm_E _ _ _ 14 [(0, .ref 18), (1, .int (iI x)), (2, .int (iI y)), (3, .int (iI 1))] [.int (iI 0), .ref 39] _ _ _ _
  refine pm_e_sim pm_a206_14 rfl ?_
  show pm_E _ _ _ 15 [(0, .ref 18), (1, .int (iI x)), (2, .int (iI y)), (3, .int (iI 1))] [.int (iI y), .int (iI 0), .ref 39] _ _ _ _
  refine pm_i_ast pm_a206_15 (mh_get (j := 21) hA rfl) (by omega) (by omega) ⟨by omega, by omega⟩ (ma_21 hA _) ?_
  show pm_E _ _ _ 16 [(0, .ref 18), (1, .int (iI x)), (2, .int (iI y)), (3, .int (iI 1))] [] _ _ _ _
  have hcb := cnb_le (B := a 17) (n := (s 32).toNat)
  have hK0 := hF.1
  refine M_unite_l (a0 := a) hA (by omega) (2 * (s 32) + 2).toNat 1 _ (by omega) (fun j h1 h2 h3 => by simp [updA, h2, h3]) hF (fun j z z2 => ?_) (by show 1 ≤ 1 + cnb (a 17) _; omega) k (by show 2 * (s 32 - cnb (a 17) _) + 1 < _; omega)
  rw [show j = 0 by omega]
  show (0 ≤ updI (a 20) 0 x 0 ∧ updI (a 20) 0 x 0 < _) ∧ (0 ≤ updI (a 21) 0 y 0 ∧ updI (a 21) 0 y 0 < _)
  rw [updI_s, updI_s]
  omega
