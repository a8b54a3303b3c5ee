/-! THE REFERENCE: lays, typed, type -/
set_option maxHeartbeats 4000000 in
set_option maxRecDepth 100000 in
theorem M_lays_1 {d : Nat} {A B : List va_E} {vl : Int64} {nm : Nat → Int64} {Q : Option Value → List va_E → Nat → Nat → Prop} {s : Nat → Int} {a0 : Nat → Int → Int} {x : Int} (hA : A.length = 18) (hF : FI (a0 17) (a0 18) (a0 19) (s 32)) (hK : s 32 ≤ 6000) : ∀ (f : Nat) (i : Int) (a : Nat → Int → Int), 0 ≤ i → i ≤ s 32 → (∀ j, j ≠ 29 → j ≠ 30 → j ≠ 31 → a j = a0 j) → (∀ j, 0 ≤ j → j < i → a 30 j = -4) → (∀ (a : Nat → Int → Int), (∀ j, j ≠ 29 → j ≠ 30 → j ≠ 31 → a j = a0 j) → (∀ j, 0 ≤ j → j < s 32 → -4 ≤ a 30 j ∧ a 30 j ≤ 1000) → ∀ i', pm_E none (d + 1) pm_mm210 24 [(0, .ref 18), (1, .int (iI x)), (2, .int (iI (i')))] [] (mh A s vl a nm B) 0 0 Q) → s 32 - i < (f : Int) → pm_E none (d + 1) pm_mm210 2 [(0, .ref 18), (1, .int (iI x)), (2, .int (iI i))] [] (mh A s vl a nm B) 0 0 Q := by
  intro f
  induction f with
  | zero =>
    intro i a h0 h1 fA hm k hf
    exfalso; omega
  | succ f ih =>
    intro i a h0 h1 fA hm k hf
    have hK0 := hF.1
    refine pm_e_sim pm_a210_2 rfl ?_
    show pm_E _ _ _ 3 [(0, .ref 18), (1, .int (iI x)), (2, .int (iI i))] [.int (iI i)] _ _ _ _
    refine pm_e_sim pm_a210_3 rfl ?_
    show pm_E _ _ _ 4 [(0, .ref 18), (1, .int (iI x)), (2, .int (iI i))] [.ref 18, .int (iI i)] _ _ _ _
    refine pm_i_get pm_a210_4 rfl (mh_get (j := 0) hA rfl) rfl ?_
    show pm_E _ _ _ 7 [(0, .ref 18), (1, .int (iI x)), (2, .int (iI i))] [.int (iI (s 32)), .int (iI i)] _ _ _ _
    refine pm_c_ge (t := 24) pm_a210_7 rfl ⟨by omega, by omega⟩ ⟨by omega, by omega⟩ (fun h_1 => ?_) (fun h_1 => ?_)
    · skip
      show pm_E _ _ _ 24 [(0, .ref 18), (1, .int (iI x)), (2, .int (iI i))] [] _ _ _ _
      exact k a fA (fun j z y => by rw [hm j z (by omega)]; omega) _
    · skip
      show pm_E _ _ _ 10 [(0, .ref 18), (1, .int (iI x)), (2, .int (iI i))] [] _ _ _ _
      refine pm_e_sim pm_a210_10 rfl ?_
      show pm_E _ _ _ 11 [(0, .ref 18), (1, .int (iI x)), (2, .int (iI i))] [.ref 18] _ _ _ _
      refine pm_i_get pm_a210_11 rfl (mh_get (j := 0) hA rfl) rfl ?_
      show pm_E _ _ _ 14 [(0, .ref 18), (1, .int (iI x)), (2, .int (iI i))] [.ref 48] _ _ _ _
      refine pm_e_sim pm_a210_14 rfl ?_
      show pm_E _ _ _ 15 [(0, .ref 18), (1, .int (iI x)), (2, .int (iI i))] [.int (iI i), .ref 48] _ _ _ _
      refine pm_e_sim pm_a210_15 rfl ?_
      refine pm_e_top (y := iI (-4)) (by decide +kernel) ?_
      show pm_E _ _ _ 17 [(0, .ref 18), (1, .int (iI x)), (2, .int (iI i))] [.int (iI (-4)), .int (iI i), .ref 48] _ _ _ _
      refine pm_i_ast pm_a210_17 (mh_get (j := 30) hA rfl) (by omega) (by omega) ⟨by omega, by omega⟩ (ma_30 hA _) ?_
      show pm_E _ _ _ 18 [(0, .ref 18), (1, .int (iI x)), (2, .int (iI i))] [] _ _ _ _
      refine pm_e_inc (y := iI (i + 1)) pm_a210_18 rfl (iI_add _ _) (by decide +kernel) rfl ?_
      show pm_E _ _ _ 21 [(0, .ref 18), (1, .int (iI x)), (2, .int (iI (i + 1)))] [] _ _ _ _
      refine pm_e_goto pm_a210_21 rfl ?_
      show pm_E _ _ _ 2 [(0, .ref 18), (1, .int (iI x)), (2, .int (iI (i + 1)))] [] _ _ _ _
      refine ih (i + 1) _ (by omega) (by omega) (fun j h1 h2 h3 => by simp [updA, h2, fA j h1 h2 h3]) (fun j z y => ?_) k (by omega)
      show updI (a 30) i (-4) j = -4
      by_cases hj : j = i
      · rw [hj, updI_s]
      · rw [updI_n _ _ hj]; exact hm j z (by omega)
set_option maxHeartbeats 4000000 in
set_option maxRecDepth 100000 in
theorem M_lays_2 {d : Nat} {A B : List va_E} {vl : Int64} {nm : Nat → Int64} {Q : Option Value → List va_E → Nat → Nat → Prop} {s : Nat → Int} {a0 : Nat → Int → Int} {x : Int} (hA : A.length = 18) (hF : FI (a0 17) (a0 18) (a0 19) (s 32)) (hK : s 32 ≤ 6000) : ∀ (f : Nat) (m y w : Int) (a : Nat → Int → Int), 0 ≤ m → m ≤ 500 → 0 ≤ y → y ≤ m → 0 ≤ w → w ≤ 1 + m → (∀ j, j ≠ 29 → j ≠ 30 → j ≠ 31 → a j = a0 j) → (∀ j, 0 ≤ j → j < s 32 → -4 ≤ a 30 j ∧ a 30 j ≤ 1000) → (∀ j, 0 ≤ j → j < w → 0 ≤ a 31 j ∧ a 31 j < s 32) → (∀ (r : Int) (a : Nat → Int → Int), (r = -3 ∨ (0 ≤ r ∧ r ≤ 500)) → (∀ j, j ≠ 29 → j ≠ 30 → j ≠ 31 → a j = a0 j) → Q (some (.int (iI r))) (mh A s vl a nm B) 0 0) → 501 - m < (f : Int) → pm_E none (d + 1) pm_mm210 38 [(0, .ref 18), (1, .int (iI x)), (2, .int (iI m)), (3, .int (iI y)), (4, .int (iI w))] [] (mh A s vl a nm B) 0 0 Q := by
  intro f
  induction f with
  | zero =>
    intro m y w a h0 h1 hy0 hy1 hw0 hw1 fA hnb hwt k hf
    exfalso; omega
  | succ f ih =>
    intro m y w a h0 h1 hy0 hy1 hw0 hw1 fA hnb hwt k hf
    have hK0 := hF.1
    have e17 : a 17 = a0 17 := fA 17 (by omega) (by omega) (by omega)
    have e18 : a 18 = a0 18 := fA 18 (by omega) (by omega) (by omega)
    have e19 : a 19 = a0 19 := fA 19 (by omega) (by omega) (by omega)
    have hFa : FI (a 17) (a 18) (a 19) (s 32) := by rw [e17, e18, e19]; exact hF
    have hw9 : 0 < w → _ := fun z => hwt (w + -1) (by omega) (by omega)
    refine pm_e_sim pm_a210_38 rfl ?_
    show pm_E _ _ _ 40 [(0, .ref 18), (1, .int (iI x)), (2, .int (iI m)), (3, .int (iI y)), (4, .int (iI w))] [.int (iI w)] _ _ _ _
    refine pm_i_le (t := 168) pm_a210_40 rfl ⟨by omega, by omega⟩ (fun h_1 => ?_) (fun h_1 => ?_)
    · skip
      show pm_E _ _ _ 168 [(0, .ref 18), (1, .int (iI x)), (2, .int (iI m)), (3, .int (iI y)), (4, .int (iI w))] [] _ _ _ _
      refine pm_e_sim pm_a210_168 rfl ?_
      show pm_E _ _ _ 169 [(0, .ref 18), (1, .int (iI x)), (2, .int (iI m)), (3, .int (iI y)), (4, .int (iI w))] [.int (iI m)] _ _ _ _
      refine pm_e_ret pm_a210_169 rfl rfl rfl rfl rfl rfl rfl rfl ?_
      exact k _ a (by omega) fA
    · skip
      show pm_E _ _ _ 43 [(0, .ref 18), (1, .int (iI x)), (2, .int (iI m)), (3, .int (iI y)), (4, .int (iI w))] [] _ _ _ _
      refine pm_e_inc (y := iI (w + (-1))) pm_a210_43 rfl (iI_add _ _) (by decide +kernel) rfl ?_
      show pm_E _ _ _ 46 [(0, .ref 18), (1, .int (iI x)), (2, .int (iI m)), (3, .int (iI y)), (4, .int (iI (w + (-1))))] [] _ _ _ _
      replace hw9 := hw9 (by omega)
      refine pm_e_sim pm_a210_46 rfl ?_
      show pm_E _ _ _ 47 [(0, .ref 18), (1, .int (iI x)), (2, .int (iI m)), (3, .int (iI y)), (4, .int (iI (w + (-1))))] [.ref 18] _ _ _ _
      refine pm_e_sim pm_a210_47 rfl ?_
      show pm_E _ _ _ 48 [(0, .ref 18), (1, .int (iI x)), (2, .int (iI m)), (3, .int (iI y)), (4, .int (iI (w + (-1))))] [.ref 18, .ref 18] _ _ _ _
      refine pm_i_get pm_a210_48 rfl (mh_get (j := 0) hA rfl) rfl ?_
      show pm_E _ _ _ 51 [(0, .ref 18), (1, .int (iI x)), (2, .int (iI m)), (3, .int (iI y)), (4, .int (iI (w + (-1))))] [.ref 49, .ref 18] _ _ _ _
      refine pm_e_sim pm_a210_51 rfl ?_
      show pm_E _ _ _ 53 [(0, .ref 18), (1, .int (iI x)), (2, .int (iI m)), (3, .int (iI y)), (4, .int (iI (w + (-1))))] [.int (iI (w + (-1))), .ref 49, .ref 18] _ _ _ _
      refine pm_i_ald pm_a210_53 (mh_get (j := 31) hA rfl) (by omega) (by omega) ⟨by omega, by omega⟩ ?_
      show pm_E _ _ _ 54 [(0, .ref 18), (1, .int (iI x)), (2, .int (iI m)), (3, .int (iI y)), (4, .int (iI (w + (-1))))] [.int (iI ((a 31) (w + (-1)))), .ref 18] _ _ _ _
      refine pm_i_callv (k := 18) (T2 := pm_mm207) pm_a210_54 rfl rfl rfl (mh_get (j := 0) hA rfl) ⟨Nat.le_of_ble_eq_true rfl, Nat.le_of_ble_eq_true rfl, rfl, by decide +kernel⟩ ?_
      show pm_E none _ _ 0 [(0, .ref 18), (1, .int (iI ((a 31) (w + (-1)))))] [] _ _ _ _
      refine M_root hA hFa (by omega) (by omega) (by omega) (fun r1 p1 q1 z1 => ?_)
      have m1 := hnb r1 p1 q1
      have l1 := (hFa.2.1 r1 p1 q1).2
      show pm_E _ _ _ 57 [(0, .ref 18), (1, .int (iI x)), (2, .int (iI m)), (3, .int (iI y)), (4, .int (iI (w + (-1))))] [.int (iI r1)] _ _ _ _
      refine pm_e_sim pm_a210_57 rfl ?_
      show pm_E _ _ _ 59 [(0, .ref 18), (1, .int (iI x)), (2, .int (iI m)), (3, .int (iI y)), (4, .int (iI (w + (-1)))), (5, .int (iI r1))] [] _ _ _ _
      refine pm_e_sim pm_a210_59 rfl ?_
      show pm_E _ _ _ 60 [(0, .ref 18), (1, .int (iI x)), (2, .int (iI m)), (3, .int (iI y)), (4, .int (iI (w + (-1)))), (5, .int (iI r1))] [.int (iI m)] _ _ _ _
      refine pm_e_sim pm_a210_60 rfl ?_
      refine pm_e_top (y := iI 500) (by decide +kernel) ?_
      show pm_E _ _ _ 63 [(0, .ref 18), (1, .int (iI x)), (2, .int (iI m)), (3, .int (iI y)), (4, .int (iI (w + (-1)))), (5, .int (iI r1))] [.int (iI 500), .int (iI m)] _ _ _ _
      refine pm_c_ne (t := 69) pm_a210_63 rfl ⟨by omega, by omega⟩ ⟨by omega, by omega⟩ (fun h_2 => ?_) (fun h_2 => ?_)
      · skip
        show pm_E _ _ _ 69 [(0, .ref 18), (1, .int (iI x)), (2, .int (iI m)), (3, .int (iI y)), (4, .int (iI (w + (-1)))), (5, .int (iI r1))] [] _ _ _ _
        refine pm_e_sim pm_a210_69 rfl ?_
        show pm_E _ _ _ 70 [(0, .ref 18), (1, .int (iI x)), (2, .int (iI m)), (3, .int (iI y)), (4, .int (iI (w + (-1)))), (5, .int (iI r1))] [.ref 18] _ _ _ _
        refine pm_i_get pm_a210_70 rfl (mh_get (j := 0) hA rfl) rfl ?_
        show pm_E _ _ _ 73 [(0, .ref 18), (1, .int (iI x)), (2, .int (iI m)), (3, .int (iI y)), (4, .int (iI (w + (-1)))), (5, .int (iI r1))] [.ref 36] _ _ _ _
        refine pm_e_sim pm_a210_73 rfl ?_
        show pm_E _ _ _ 75 [(0, .ref 18), (1, .int (iI x)), (2, .int (iI m)), (3, .int (iI y)), (4, .int (iI (w + (-1)))), (5, .int (iI r1))] [.int (iI r1), .ref 36] _ _ _ _
        refine pm_i_ald pm_a210_75 (mh_get (j := 18) hA rfl) (by omega) (by omega) ⟨by omega, by omega⟩ ?_
        show pm_E _ _ _ 76 [(0, .ref 18), (1, .int (iI x)), (2, .int (iI m)), (3, .int (iI y)), (4, .int (iI (w + (-1)))), (5, .int (iI r1))] [.int (iI ((a 18) (r1)))] _ _ _ _
        refine pm_e_sim pm_a210_76 rfl ?_
        refine pm_e_top (y := iI (-4)) (by decide +kernel) ?_
        show pm_E _ _ _ 78 [(0, .ref 18), (1, .int (iI x)), (2, .int (iI m)), (3, .int (iI y)), (4, .int (iI (w + (-1)))), (5, .int (iI r1))] [.int (iI (-4)), .int (iI ((a 18) (r1)))] _ _ _ _
        refine pm_c_ne (t := 122) pm_a210_78 rfl ⟨by omega, by omega⟩ ⟨by omega, by omega⟩ (fun h_3 => ?_) (fun h_3 => ?_)
        · skip
          show pm_E _ _ _ 122 [(0, .ref 18), (1, .int (iI x)), (2, .int (iI m)), (3, .int (iI y)), (4, .int (iI (w + (-1)))), (5, .int (iI r1))] [] _ _ _ _
          refine pm_e_sim pm_a210_122 rfl ?_
          show pm_E _ _ _ 123 [(0, .ref 18), (1, .int (iI x)), (2, .int (iI m)), (3, .int (iI y)), (4, .int (iI (w + (-1)))), (5, .int (iI r1))] [.ref 18] _ _ _ _
          refine pm_i_get pm_a210_123 rfl (mh_get (j := 0) hA rfl) rfl ?_
          show pm_E _ _ _ 126 [(0, .ref 18), (1, .int (iI x)), (2, .int (iI m)), (3, .int (iI y)), (4, .int (iI (w + (-1)))), (5, .int (iI r1))] [.ref 47] _ _ _ _
          refine pm_e_sim pm_a210_126 rfl ?_
          show pm_E _ _ _ 127 [(0, .ref 18), (1, .int (iI x)), (2, .int (iI m)), (3, .int (iI y)), (4, .int (iI (w + (-1)))), (5, .int (iI r1))] [.int (iI m), .ref 47] _ _ _ _
          refine pm_e_sim pm_a210_127 rfl ?_
          refine pm_e_top (y := iI 0) (by decide +kernel) ?_
          show pm_E _ _ _ 128 [(0, .ref 18), (1, .int (iI x)), (2, .int (iI m)), (3, .int (iI y)), (4, .int (iI (w + (-1)))), (5, .int (iI r1))] [.int (iI 0), .int (iI m), .ref 47] _ _ _ _
          refine pm_i_ast pm_a210_128 (mh_get (j := 29) hA rfl) (by omega) (by omega) ⟨by omega, by omega⟩ (ma_29 hA _) ?_
          show pm_E _ _ _ 129 [(0, .ref 18), (1, .int (iI x)), (2, .int (iI m)), (3, .int (iI y)), (4, .int (iI (w + (-1)))), (5, .int (iI r1))] [] _ _ _ _
          refine pm_e_sim pm_a210_129 rfl ?_
          show pm_E _ _ _ 130 [(0, .ref 18), (1, .int (iI x)), (2, .int (iI m)), (3, .int (iI y)), (4, .int (iI (w + (-1)))), (5, .int (iI r1))] [.ref 18] _ _ _ _
          refine pm_i_get pm_a210_130 rfl (mh_get (j := 0) hA rfl) rfl ?_
          show pm_E _ _ _ 133 [(0, .ref 18), (1, .int (iI x)), (2, .int (iI m)), (3, .int (iI y)), (4, .int (iI (w + (-1)))), (5, .int (iI r1))] [.ref 49] _ _ _ _
          refine pm_e_sim pm_a210_133 rfl ?_
          show pm_E _ _ _ 135 [(0, .ref 18), (1, .int (iI x)), (2, .int (iI m)), (3, .int (iI y)), (4, .int (iI (w + (-1)))), (5, .int (iI r1))] [.int (iI (w + (-1))), .ref 49] _ _ _ _
          refine pm_e_sim pm_a210_135 rfl ?_
          show pm_E _ _ _ 136 [(0, .ref 18), (1, .int (iI x)), (2, .int (iI m)), (3, .int (iI y)), (4, .int (iI (w + (-1)))), (5, .int (iI r1))] [.ref 18, .int (iI (w + (-1))), .ref 49] _ _ _ _
          refine pm_i_get pm_a210_136 rfl (mh_get (j := 0) hA rfl) rfl ?_
          show pm_E _ _ _ 139 [(0, .ref 18), (1, .int (iI x)), (2, .int (iI m)), (3, .int (iI y)), (4, .int (iI (w + (-1)))), (5, .int (iI r1))] [.ref 37, .int (iI (w + (-1))), .ref 49] _ _ _ _
          refine pm_e_sim pm_a210_139 rfl ?_
          show pm_E _ _ _ 141 [(0, .ref 18), (1, .int (iI x)), (2, .int (iI m)), (3, .int (iI y)), (4, .int (iI (w + (-1)))), (5, .int (iI r1))] [.int (iI r1), .ref 37, .int (iI (w + (-1))), .ref 49] _ _ _ _
          refine pm_i_ald pm_a210_141 (mh_get (j := 19) hA rfl) (by omega) (by omega) ⟨by omega, by omega⟩ ?_
          show pm_E _ _ _ 142 [(0, .ref 18), (1, .int (iI x)), (2, .int (iI m)), (3, .int (iI y)), (4, .int (iI (w + (-1)))), (5, .int (iI r1))] [.int (iI ((a 19) (r1))), .int (iI (w + (-1))), .ref 49] _ _ _ _
          refine pm_i_ast pm_a210_142 (mh_get (j := 31) hA rfl) (by omega) (by omega) ⟨by omega, by omega⟩ (ma_31 hA _) ?_
          show pm_E _ _ _ 143 [(0, .ref 18), (1, .int (iI x)), (2, .int (iI m)), (3, .int (iI y)), (4, .int (iI (w + (-1)))), (5, .int (iI r1))] [] _ _ _ _
          refine pm_e_sim pm_a210_143 rfl ?_
          show pm_E _ _ _ 144 [(0, .ref 18), (1, .int (iI x)), (2, .int (iI m)), (3, .int (iI y)), (4, .int (iI (w + (-1)))), (5, .int (iI r1))] [.ref 18] _ _ _ _
          refine pm_i_get pm_a210_144 rfl (mh_get (j := 0) hA rfl) rfl ?_
          show pm_E _ _ _ 147 [(0, .ref 18), (1, .int (iI x)), (2, .int (iI m)), (3, .int (iI y)), (4, .int (iI (w + (-1)))), (5, .int (iI r1))] [.ref 49] _ _ _ _
          refine pm_e_sim pm_a210_147 rfl ?_
          show pm_E _ _ _ 149 [(0, .ref 18), (1, .int (iI x)), (2, .int (iI m)), (3, .int (iI y)), (4, .int (iI (w + (-1)))), (5, .int (iI r1))] [.int (iI (w + (-1))), .ref 49] _ _ _ _
          refine pm_e_sim pm_a210_149 rfl ?_
          refine pm_e_top (y := iI 1) (by decide +kernel) ?_
          show pm_E _ _ _ 150 [(0, .ref 18), (1, .int (iI x)), (2, .int (iI m)), (3, .int (iI y)), (4, .int (iI (w + (-1)))), (5, .int (iI r1))] [.int (iI 1), .int (iI (w + (-1))), .ref 49] _ _ _ _
          refine pm_e_sim pm_a210_150 rfl ?_
          refine pm_e_top (y := iI (w + (-1) + 1)) (iI_add _ _) ?_
          show pm_E _ _ _ 151 [(0, .ref 18), (1, .int (iI x)), (2, .int (iI m)), (3, .int (iI y)), (4, .int (iI (w + (-1)))), (5, .int (iI r1))] [.int (iI (w + (-1) + 1)), .ref 49] _ _ _ _
          refine pm_e_sim pm_a210_151 rfl ?_
          show pm_E _ _ _ 152 [(0, .ref 18), (1, .int (iI x)), (2, .int (iI m)), (3, .int (iI y)), (4, .int (iI (w + (-1)))), (5, .int (iI r1))] [.ref 18, .int (iI (w + (-1) + 1)), .ref 49] _ _ _ _
          refine pm_i_get pm_a210_152 rfl (mh_get (j := 0) hA rfl) rfl ?_
          show pm_E _ _ _ 155 [(0, .ref 18), (1, .int (iI x)), (2, .int (iI m)), (3, .int (iI y)), (4, .int (iI (w + (-1)))), (5, .int (iI r1))] [.ref 36, .int (iI (w + (-1) + 1)), .ref 49] _ _ _ _
          refine pm_e_sim pm_a210_155 rfl ?_
          show pm_E _ _ _ 157 [(0, .ref 18), (1, .int (iI x)), (2, .int (iI m)), (3, .int (iI y)), (4, .int (iI (w + (-1)))), (5, .int (iI r1))] [.int (iI r1), .ref 36, .int (iI (w + (-1) + 1)), .ref 49] _ _ _ _
          refine pm_i_ald pm_a210_157 (mh_get (j := 18) hA rfl) (by omega) (by omega) ⟨by omega, by omega⟩ ?_
          show pm_E _ _ _ 158 [(0, .ref 18), (1, .int (iI x)), (2, .int (iI m)), (3, .int (iI y)), (4, .int (iI (w + (-1)))), (5, .int (iI r1))] [.int (iI ((a 18) (r1))), .int (iI (w + (-1) + 1)), .ref 49] _ _ _ _
          refine pm_i_ast pm_a210_158 (mh_get (j := 31) hA rfl) (by omega) (by omega) ⟨by omega, by omega⟩ (ma_31 hA _) ?_
          show pm_E _ _ _ 159 [(0, .ref 18), (1, .int (iI x)), (2, .int (iI m)), (3, .int (iI y)), (4, .int (iI (w + (-1)))), (5, .int (iI r1))] [] _ _ _ _
          refine pm_e_inc (y := iI (w + (-1) + 2)) pm_a210_159 rfl (iI_add _ _) (by decide +kernel) rfl ?_
          show pm_E _ _ _ 162 [(0, .ref 18), (1, .int (iI x)), (2, .int (iI m)), (3, .int (iI y)), (4, .int (iI (w + (-1) + 2))), (5, .int (iI r1))] [] _ _ _ _
          refine pm_e_inc (y := iI (m + 1)) pm_a210_162 rfl (iI_add _ _) (by decide +kernel) rfl ?_
          show pm_E _ _ _ 165 [(0, .ref 18), (1, .int (iI x)), (2, .int (iI (m + 1))), (3, .int (iI y)), (4, .int (iI (w + (-1) + 2))), (5, .int (iI r1))] [] _ _ _ _
          refine pm_e_goto pm_a210_165 rfl ?_
          show pm_E _ _ _ 38 [(0, .ref 18), (1, .int (iI x)), (2, .int (iI (m + 1))), (3, .int (iI y)), (4, .int (iI (w + (-1) + 2))), (5, .int (iI r1))] [] _ _ _ _
          show pm_E _ _ _ 38 ([(0, .ref 18), (1, .int (iI x)), (2, .int (iI (m + 1))), (3, .int (iI y)), (4, .int (iI (w + (-1) + 2)))] ++ [(5, .int (iI r1))]) [] _ _ _ _
          refine pm_e_more [(5, .int (iI r1))] (show ([0, 1, 2, 3, 4, 5] : List Nat).Nodup from by decide) ?_
          refine ih (m + 1) (y) (w + (-1) + 2) _ (by omega) (by omega) (by omega) (by omega) (by omega) (by omega) (fun j h1 h2 h3 => by simp [updA, h1, h2, h3, fA j h1 h2 h3]) (fun j z y9 => hnb j z y9) (fun j z y9 => ?_) k (by omega)
          · show 0 ≤ updI (updI (a 31) (w + -1) _) (w + -1 + 1) _ j ∧ updI (updI (a 31) (w + -1) _) (w + -1 + 1) _ j < s 32
            have h9 := hwt j
            unfold updI
            repeat' split
            all_goals omega
        · skip
          show pm_E _ _ _ 81 [(0, .ref 18), (1, .int (iI x)), (2, .int (iI m)), (3, .int (iI y)), (4, .int (iI (w + (-1)))), (5, .int (iI r1))] [] _ _ _ _
          refine pm_e_sim pm_a210_81 rfl ?_
          show pm_E _ _ _ 82 [(0, .ref 18), (1, .int (iI x)), (2, .int (iI m)), (3, .int (iI y)), (4, .int (iI (w + (-1)))), (5, .int (iI r1))] [.ref 18] _ _ _ _
          refine pm_i_get pm_a210_82 rfl (mh_get (j := 0) hA rfl) rfl ?_
          show pm_E _ _ _ 85 [(0, .ref 18), (1, .int (iI x)), (2, .int (iI m)), (3, .int (iI y)), (4, .int (iI (w + (-1)))), (5, .int (iI r1))] [.ref 48] _ _ _ _
          refine pm_e_sim pm_a210_85 rfl ?_
          show pm_E _ _ _ 87 [(0, .ref 18), (1, .int (iI x)), (2, .int (iI m)), (3, .int (iI y)), (4, .int (iI (w + (-1)))), (5, .int (iI r1))] [.int (iI r1), .ref 48] _ _ _ _
          refine pm_i_ald pm_a210_87 (mh_get (j := 30) hA rfl) (by omega) (by omega) ⟨by omega, by omega⟩ ?_
          show pm_E _ _ _ 88 [(0, .ref 18), (1, .int (iI x)), (2, .int (iI m)), (3, .int (iI y)), (4, .int (iI (w + (-1)))), (5, .int (iI r1))] [.int (iI ((a 30) (r1)))] _ _ _ _
          refine pm_e_sim pm_a210_88 rfl ?_
          refine pm_e_top (y := iI (-4)) (by decide +kernel) ?_
          show pm_E _ _ _ 90 [(0, .ref 18), (1, .int (iI x)), (2, .int (iI m)), (3, .int (iI y)), (4, .int (iI (w + (-1)))), (5, .int (iI r1))] [.int (iI (-4)), .int (iI ((a 30) (r1)))] _ _ _ _
          refine pm_c_ne (t := 104) pm_a210_90 rfl ⟨by omega, by omega⟩ ⟨by omega, by omega⟩ (fun h_4 => ?_) (fun h_4 => ?_)
          · skip
            show pm_E _ _ _ 104 [(0, .ref 18), (1, .int (iI x)), (2, .int (iI m)), (3, .int (iI y)), (4, .int (iI (w + (-1)))), (5, .int (iI r1))] [] _ _ _ _
            refine pm_e_sim pm_a210_104 rfl ?_
            show pm_E _ _ _ 105 [(0, .ref 18), (1, .int (iI x)), (2, .int (iI m)), (3, .int (iI y)), (4, .int (iI (w + (-1)))), (5, .int (iI r1))] [.ref 18] _ _ _ _
            refine pm_i_get pm_a210_105 rfl (mh_get (j := 0) hA rfl) rfl ?_
            show pm_E _ _ _ 108 [(0, .ref 18), (1, .int (iI x)), (2, .int (iI m)), (3, .int (iI y)), (4, .int (iI (w + (-1)))), (5, .int (iI r1))] [.ref 47] _ _ _ _
            refine pm_e_sim pm_a210_108 rfl ?_
            show pm_E _ _ _ 109 [(0, .ref 18), (1, .int (iI x)), (2, .int (iI m)), (3, .int (iI y)), (4, .int (iI (w + (-1)))), (5, .int (iI r1))] [.int (iI m), .ref 47] _ _ _ _
            refine pm_e_sim pm_a210_109 rfl ?_
            refine pm_e_top (y := iI 1) (by decide +kernel) ?_
            show pm_E _ _ _ 110 [(0, .ref 18), (1, .int (iI x)), (2, .int (iI m)), (3, .int (iI y)), (4, .int (iI (w + (-1)))), (5, .int (iI r1))] [.int (iI 1), .int (iI m), .ref 47] _ _ _ _
            refine pm_e_sim pm_a210_110 rfl ?_
            show pm_E _ _ _ 111 [(0, .ref 18), (1, .int (iI x)), (2, .int (iI m)), (3, .int (iI y)), (4, .int (iI (w + (-1)))), (5, .int (iI r1))] [.ref 18, .int (iI 1), .int (iI m), .ref 47] _ _ _ _
            refine pm_i_get pm_a210_111 rfl (mh_get (j := 0) hA rfl) rfl ?_
            show pm_E _ _ _ 114 [(0, .ref 18), (1, .int (iI x)), (2, .int (iI m)), (3, .int (iI y)), (4, .int (iI (w + (-1)))), (5, .int (iI r1))] [.ref 48, .int (iI 1), .int (iI m), .ref 47] _ _ _ _
            refine pm_e_sim pm_a210_114 rfl ?_
            show pm_E _ _ _ 116 [(0, .ref 18), (1, .int (iI x)), (2, .int (iI m)), (3, .int (iI y)), (4, .int (iI (w + (-1)))), (5, .int (iI r1))] [.int (iI r1), .ref 48, .int (iI 1), .int (iI m), .ref 47] _ _ _ _
            refine pm_i_ald pm_a210_116 (mh_get (j := 30) hA rfl) (by omega) (by omega) ⟨by omega, by omega⟩ ?_
            show pm_E _ _ _ 117 [(0, .ref 18), (1, .int (iI x)), (2, .int (iI m)), (3, .int (iI y)), (4, .int (iI (w + (-1)))), (5, .int (iI r1))] [.int (iI ((a 30) (r1))), .int (iI 1), .int (iI m), .ref 47] _ _ _ _
            refine pm_e_sim pm_a210_117 rfl ?_
            refine pm_e_top (y := iI (1 + ((a 30) (r1)))) (iI_add _ _) ?_
            show pm_E _ _ _ 118 [(0, .ref 18), (1, .int (iI x)), (2, .int (iI m)), (3, .int (iI y)), (4, .int (iI (w + (-1)))), (5, .int (iI r1))] [.int (iI (1 + ((a 30) (r1)))), .int (iI m), .ref 47] _ _ _ _
            refine pm_i_ast pm_a210_118 (mh_get (j := 29) hA rfl) (by omega) (by omega) ⟨by omega, by omega⟩ (ma_29 hA _) ?_
            show pm_E _ _ _ 119 [(0, .ref 18), (1, .int (iI x)), (2, .int (iI m)), (3, .int (iI y)), (4, .int (iI (w + (-1)))), (5, .int (iI r1))] [] _ _ _ _
            refine pm_e_goto pm_a210_119 rfl ?_
            show pm_E _ _ _ 162 [(0, .ref 18), (1, .int (iI x)), (2, .int (iI m)), (3, .int (iI y)), (4, .int (iI (w + (-1)))), (5, .int (iI r1))] [] _ _ _ _
            refine pm_e_inc (y := iI (m + 1)) pm_a210_162 rfl (iI_add _ _) (by decide +kernel) rfl ?_
            show pm_E _ _ _ 165 [(0, .ref 18), (1, .int (iI x)), (2, .int (iI (m + 1))), (3, .int (iI y)), (4, .int (iI (w + (-1)))), (5, .int (iI r1))] [] _ _ _ _
            refine pm_e_goto pm_a210_165 rfl ?_
            show pm_E _ _ _ 38 [(0, .ref 18), (1, .int (iI x)), (2, .int (iI (m + 1))), (3, .int (iI y)), (4, .int (iI (w + (-1)))), (5, .int (iI r1))] [] _ _ _ _
            show pm_E _ _ _ 38 ([(0, .ref 18), (1, .int (iI x)), (2, .int (iI (m + 1))), (3, .int (iI y)), (4, .int (iI (w + (-1))))] ++ [(5, .int (iI r1))]) [] _ _ _ _
            refine pm_e_more [(5, .int (iI r1))] (show ([0, 1, 2, 3, 4, 5] : List Nat).Nodup from by decide) ?_
            refine ih (m + 1) (y) (w + (-1)) _ (by omega) (by omega) (by omega) (by omega) (by omega) (by omega) (fun j h1 h2 h3 => by simp [updA, h1, h2, h3, fA j h1 h2 h3]) (fun j z y9 => hnb j z y9) (fun j z y9 => hwt j z (by omega)) k (by omega)
          · skip
            show pm_E _ _ _ 93 [(0, .ref 18), (1, .int (iI x)), (2, .int (iI m)), (3, .int (iI y)), (4, .int (iI (w + (-1)))), (5, .int (iI r1))] [] _ _ _ _
            refine pm_e_sim pm_a210_93 rfl ?_
            show pm_E _ _ _ 94 [(0, .ref 18), (1, .int (iI x)), (2, .int (iI m)), (3, .int (iI y)), (4, .int (iI (w + (-1)))), (5, .int (iI r1))] [.ref 18] _ _ _ _
            refine pm_i_get pm_a210_94 rfl (mh_get (j := 0) hA rfl) rfl ?_
            show pm_E _ _ _ 97 [(0, .ref 18), (1, .int (iI x)), (2, .int (iI m)), (3, .int (iI y)), (4, .int (iI (w + (-1)))), (5, .int (iI r1))] [.ref 48] _ _ _ _
            refine pm_e_sim pm_a210_97 rfl ?_
            show pm_E _ _ _ 99 [(0, .ref 18), (1, .int (iI x)), (2, .int (iI m)), (3, .int (iI y)), (4, .int (iI (w + (-1)))), (5, .int (iI r1))] [.int (iI r1), .ref 48] _ _ _ _
            refine pm_e_sim pm_a210_99 rfl ?_
            show pm_E _ _ _ 100 [(0, .ref 18), (1, .int (iI x)), (2, .int (iI m)), (3, .int (iI y)), (4, .int (iI (w + (-1)))), (5, .int (iI r1))] [.int (iI y), .int (iI r1), .ref 48] _ _ _ _
            refine pm_i_ast pm_a210_100 (mh_get (j := 30) hA rfl) (by omega) (by omega) ⟨by omega, by omega⟩ (ma_30 hA _) ?_
            show pm_E _ _ _ 101 [(0, .ref 18), (1, .int (iI x)), (2, .int (iI m)), (3, .int (iI y)), (4, .int (iI (w + (-1)))), (5, .int (iI r1))] [] _ _ _ _
            refine pm_e_inc (y := iI (y + 1)) pm_a210_101 rfl (iI_add _ _) (by decide +kernel) rfl ?_
            show pm_E _ _ _ 104 [(0, .ref 18), (1, .int (iI x)), (2, .int (iI m)), (3, .int (iI (y + 1))), (4, .int (iI (w + (-1)))), (5, .int (iI r1))] [] _ _ _ _
            refine pm_e_sim pm_a210_104 rfl ?_
            show pm_E _ _ _ 105 [(0, .ref 18), (1, .int (iI x)), (2, .int (iI m)), (3, .int (iI (y + 1))), (4, .int (iI (w + (-1)))), (5, .int (iI r1))] [.ref 18] _ _ _ _
            refine pm_i_get pm_a210_105 rfl (mh_get (j := 0) hA rfl) rfl ?_
            show pm_E _ _ _ 108 [(0, .ref 18), (1, .int (iI x)), (2, .int (iI m)), (3, .int (iI (y + 1))), (4, .int (iI (w + (-1)))), (5, .int (iI r1))] [.ref 47] _ _ _ _
            refine pm_e_sim pm_a210_108 rfl ?_
            show pm_E _ _ _ 109 [(0, .ref 18), (1, .int (iI x)), (2, .int (iI m)), (3, .int (iI (y + 1))), (4, .int (iI (w + (-1)))), (5, .int (iI r1))] [.int (iI m), .ref 47] _ _ _ _
            refine pm_e_sim pm_a210_109 rfl ?_
            refine pm_e_top (y := iI 1) (by decide +kernel) ?_
            show pm_E _ _ _ 110 [(0, .ref 18), (1, .int (iI x)), (2, .int (iI m)), (3, .int (iI (y + 1))), (4, .int (iI (w + (-1)))), (5, .int (iI r1))] [.int (iI 1), .int (iI m), .ref 47] _ _ _ _
            refine pm_e_sim pm_a210_110 rfl ?_
            show pm_E _ _ _ 111 [(0, .ref 18), (1, .int (iI x)), (2, .int (iI m)), (3, .int (iI (y + 1))), (4, .int (iI (w + (-1)))), (5, .int (iI r1))] [.ref 18, .int (iI 1), .int (iI m), .ref 47] _ _ _ _
            refine pm_i_get pm_a210_111 rfl (mh_get (j := 0) hA rfl) rfl ?_
            show pm_E _ _ _ 114 [(0, .ref 18), (1, .int (iI x)), (2, .int (iI m)), (3, .int (iI (y + 1))), (4, .int (iI (w + (-1)))), (5, .int (iI r1))] [.ref 48, .int (iI 1), .int (iI m), .ref 47] _ _ _ _
            refine pm_e_sim pm_a210_114 rfl ?_
            show pm_E _ _ _ 116 [(0, .ref 18), (1, .int (iI x)), (2, .int (iI m)), (3, .int (iI (y + 1))), (4, .int (iI (w + (-1)))), (5, .int (iI r1))] [.int (iI r1), .ref 48, .int (iI 1), .int (iI m), .ref 47] _ _ _ _
            refine pm_i_ald pm_a210_116 (mh_get (j := 30) hA rfl) (by omega) (by omega) ⟨by omega, by omega⟩ ?_
            show pm_E _ _ _ 117 [(0, .ref 18), (1, .int (iI x)), (2, .int (iI m)), (3, .int (iI (y + 1))), (4, .int (iI (w + (-1)))), (5, .int (iI r1))] [.int (iI ((updI (a 30) (r1) (y)) (r1))), .int (iI 1), .int (iI m), .ref 47] _ _ _ _
            refine pm_e_sim pm_a210_117 rfl ?_
            refine pm_e_top (y := iI (1 + ((updI (a 30) (r1) (y)) (r1)))) (iI_add _ _) ?_
            show pm_E _ _ _ 118 [(0, .ref 18), (1, .int (iI x)), (2, .int (iI m)), (3, .int (iI (y + 1))), (4, .int (iI (w + (-1)))), (5, .int (iI r1))] [.int (iI (1 + ((updI (a 30) (r1) (y)) (r1)))), .int (iI m), .ref 47] _ _ _ _
            refine pm_i_ast pm_a210_118 (mh_get (j := 29) hA rfl) (by omega) (by omega) ⟨by omega, by omega⟩ (ma_29 hA _) ?_
            show pm_E _ _ _ 119 [(0, .ref 18), (1, .int (iI x)), (2, .int (iI m)), (3, .int (iI (y + 1))), (4, .int (iI (w + (-1)))), (5, .int (iI r1))] [] _ _ _ _
            refine pm_e_goto pm_a210_119 rfl ?_
            show pm_E _ _ _ 162 [(0, .ref 18), (1, .int (iI x)), (2, .int (iI m)), (3, .int (iI (y + 1))), (4, .int (iI (w + (-1)))), (5, .int (iI r1))] [] _ _ _ _
            refine pm_e_inc (y := iI (m + 1)) pm_a210_162 rfl (iI_add _ _) (by decide +kernel) rfl ?_
            show pm_E _ _ _ 165 [(0, .ref 18), (1, .int (iI x)), (2, .int (iI (m + 1))), (3, .int (iI (y + 1))), (4, .int (iI (w + (-1)))), (5, .int (iI r1))] [] _ _ _ _
            refine pm_e_goto pm_a210_165 rfl ?_
            show pm_E _ _ _ 38 [(0, .ref 18), (1, .int (iI x)), (2, .int (iI (m + 1))), (3, .int (iI (y + 1))), (4, .int (iI (w + (-1)))), (5, .int (iI r1))] [] _ _ _ _
            show pm_E _ _ _ 38 ([(0, .ref 18), (1, .int (iI x)), (2, .int (iI (m + 1))), (3, .int (iI (y + 1))), (4, .int (iI (w + (-1))))] ++ [(5, .int (iI r1))]) [] _ _ _ _
            refine pm_e_more [(5, .int (iI r1))] (show ([0, 1, 2, 3, 4, 5] : List Nat).Nodup from by decide) ?_
            refine ih (m + 1) (y + 1) (w + (-1)) _ (by omega) (by omega) (by omega) (by omega) (by omega) (by omega) (fun j h1 h2 h3 => by simp [updA, h1, h2, h3, fA j h1 h2 h3]) (fun j z y9 => ?_) (fun j z y9 => hwt j z (by omega)) k (by omega)
            · show -4 ≤ updI (a 30) _ y j ∧ updI (a 30) _ y j ≤ 1000; have := hnb j z y9; unfold updI; split <;> omega
      · skip
        show pm_E _ _ _ 66 [(0, .ref 18), (1, .int (iI x)), (2, .int (iI m)), (3, .int (iI y)), (4, .int (iI (w + (-1)))), (5, .int (iI r1))] [] _ _ _ _
        refine pm_e_sim pm_a210_66 rfl ?_
        refine pm_e_top (y := iI (-3)) (by decide +kernel) ?_
        show pm_E _ _ _ 68 [(0, .ref 18), (1, .int (iI x)), (2, .int (iI m)), (3, .int (iI y)), (4, .int (iI (w + (-1)))), (5, .int (iI r1))] [.int (iI (-3))] _ _ _ _
        refine pm_e_ret pm_a210_68 rfl rfl rfl rfl rfl rfl rfl rfl ?_
        exact k _ a (by omega) fA
set_option maxHeartbeats 4000000 in
set_option maxRecDepth 100000 in
theorem M_lays {d : Nat} {A B : List va_E} {s : Nat → Int} {vl : Int64} {a : Nat → Int → Int} {nm : Nat → Int64} {Q : Option Value → List va_E → Nat → Nat → Prop} {x : Int} (hA : A.length = 18) (hF : FI (a 17) (a 18) (a 19) (s 32)) (hK : s 32 ≤ 6000) (hx : 0 ≤ x ∧ x < s 32) (k : ∀ (r : Int) (a' : Nat → Int → Int), (r = -3 ∨ (0 ≤ r ∧ r ≤ 500)) → (∀ j, j ≠ 29 → j ≠ 30 → j ≠ 31 → a' j = a j) → Q (some (.int (iI r))) (mh A s vl a' nm B) 0 0) : pm_E none (d + 1) pm_mm210 0 [(0, .ref 18), (1, .int (iI x))] [] (mh A s vl a nm B) 0 0 Q := by
  have hK0 := hF.1
  refine pm_e_sim pm_a210_0 rfl ?_
  refine pm_e_top (y := iI 0) (by decide +kernel) ?_
  show pm_E _ _ _ 1 [(0, .ref 18), (1, .int (iI x))] [.int (iI 0)] _ _ _ _
  refine pm_e_sim pm_a210_1 rfl ?_
  show pm_E _ _ _ 2 [(0, .ref 18), (1, .int (iI x)), (2, .int (iI 0))] [] _ _ _ _
  refine M_lays_1 (a0 := a) hA hF hK (s 32 + 1).toNat 0 a (by omega) (by omega) (fun j _ _ _ => rfl) (fun j z y => by omega) ?_ (by omega)
  intro a1 fA1 hnb1 i1
  refine pm_e_sim pm_a210_24 rfl ?_
  refine pm_e_top (y := iI 0) (by decide +kernel) ?_
  show pm_E _ _ _ 25 [(0, .ref 18), (1, .int (iI x)), (2, .int (iI i1))] [.int (iI 0)] _ _ _ _
  refine pm_e_sim pm_a210_25 rfl ?_
  show pm_E _ _ _ 26 [(0, .ref 18), (1, .int (iI x)), (2, .int (iI 0))] [] _ _ _ _
  refine pm_e_sim pm_a210_26 rfl ?_
  refine pm_e_top (y := iI 0) (by decide +kernel) ?_
  show pm_E _ _ _ 27 [(0, .ref 18), (1, .int (iI x)), (2, .int (iI 0))] [.int (iI 0)] _ _ _ _
  refine pm_e_sim pm_a210_27 rfl ?_
  show pm_E _ _ _ 28 [(0, .ref 18), (1, .int (iI x)), (2, .int (iI 0)), (3, .int (iI 0))] [] _ _ _ _
  refine pm_e_sim pm_a210_28 rfl ?_
  refine pm_e_top (y := iI 1) (by decide +kernel) ?_
  show pm_E _ _ _ 29 [(0, .ref 18), (1, .int (iI x)), (2, .int (iI 0)), (3, .int (iI 0))] [.int (iI 1)] _ _ _ _
  refine pm_e_sim pm_a210_29 rfl ?_
  show pm_E _ _ _ 31 [(0, .ref 18), (1, .int (iI x)), (2, .int (iI 0)), (3, .int (iI 0)), (4, .int (iI 1))] [] _ _ _ _
  refine pm_e_sim pm_a210_31 rfl ?_
  show pm_E _ _ _ 32 [(0, .ref 18), (1, .int (iI x)), (2, .int (iI 0)), (3, .int (iI 0)), (4, .int (iI 1))] [.ref 18] _ _ _ _
  refine pm_i_get pm_a210_32 rfl (mh_get (j := 0) hA rfl) rfl ?_
  show pm_E _ _ _ 35 [(0, .ref 18), (1, .int (iI x)), (2, .int (iI 0)), (3, .int (iI 0)), (4, .int (iI 1))] [.ref 49] _ _ _ _
  refine pm_e_sim pm_a210_35 rfl ?_
  refine pm_e_top (y := iI 0) (by decide +kernel) ?_
  show pm_E _ _ _ 36 [(0, .ref 18), (1, .int (iI x)), (2, .int (iI 0)), (3, .int (iI 0)), (4, .int (iI 1))] [.int (iI 0), .ref 49] _ _ _ _
  refine pm_e_sim pm_a210_36 rfl ?_
  show pm_E _ _ _ 37 [(0, .ref 18), (1, .int (iI x)), (2, .int (iI 0)), (3, .int (iI 0)), (4, .int (iI 1))] [.int (iI x), .int (iI 0), .ref 49] _ _ _ _
  refine pm_i_ast pm_a210_37 (mh_get (j := 31) hA rfl) (by omega) (by omega) ⟨by omega, by omega⟩ (ma_31 hA _) ?_
  show pm_E _ _ _ 38 [(0, .ref 18), (1, .int (iI x)), (2, .int (iI 0)), (3, .int (iI 0)), (4, .int (iI 1))] [] _ _ _ _
  refine M_lays_2 (a0 := a) hA hF hK 502 0 0 1 _ (by omega) (by omega) (by omega) (by omega) (by omega) (by omega) (fun j h1 h2 h3 => by simp [updA, h3, fA1 j h1 h2 h3]) hnb1 (fun j z y => ?_) k (by omega)
  rw [show j = 0 by omega]
  show 0 ≤ updI (a1 31) 0 x 0 ∧ updI (a1 31) 0 x 0 < s 32
  rw [updI_s]; omega
set_option maxHeartbeats 4000000 in
set_option maxRecDepth 100000 in
theorem M_typed_l {d : Nat} {A B : List va_E} {vl : Int64} {nm : Nat → Int64} {Q : Option Value → List va_E → Nat → Nat → Prop} {s : Nat → Int} {a0 : Nat → Int → Int} {x t m : Int} (hA : A.length = 18) (hm0 : 0 ≤ m) (hm1 : m ≤ 500) (k : ∀ (a : Nat → Int → Int), (∀ j, j ≠ 28 → a j = a0 j) → Q (some (.int (iI m))) (mh A s vl a nm B) 0 0) : ∀ (f : Nat) (i : Int) (a : Nat → Int → Int), 0 ≤ i → i ≤ m → (∀ j, j ≠ 28 → a j = a0 j) → m - i < (f : Int) → pm_E none (d + 4) pm_mm202 50 [(0, .ref 18), (1, .int (iI x)), (2, .int (iI t)), (3, .int (iI m)), (4, .int (iI i))] [] (mh A s vl a nm B) 0 0 Q := by
  intro f
  induction f with
  | zero =>
    intro i a h0 h1 fA hf
    exfalso; omega
  | succ f ih =>
    intro i a h0 h1 fA hf
    refine pm_e_sim pm_a202_50 rfl ?_
    show pm_E _ _ _ 52 [(0, .ref 18), (1, .int (iI x)), (2, .int (iI t)), (3, .int (iI m)), (4, .int (iI i))] [.int (iI i)] _ _ _ _
    refine pm_e_sim pm_a202_52 rfl ?_
    show pm_E _ _ _ 53 [(0, .ref 18), (1, .int (iI x)), (2, .int (iI t)), (3, .int (iI m)), (4, .int (iI i))] [.int (iI m), .int (iI i)] _ _ _ _
    refine pm_c_ge (t := 76) pm_a202_53 rfl ⟨by omega, by omega⟩ ⟨by omega, by omega⟩ (fun h_1 => ?_) (fun h_1 => ?_)
    · skip
      show pm_E _ _ _ 76 [(0, .ref 18), (1, .int (iI x)), (2, .int (iI t)), (3, .int (iI m)), (4, .int (iI i))] [] _ _ _ _
      refine pm_e_sim pm_a202_76 rfl ?_
      show pm_E _ _ _ 77 [(0, .ref 18), (1, .int (iI x)), (2, .int (iI t)), (3, .int (iI m)), (4, .int (iI i))] [.int (iI m)] _ _ _ _
      refine pm_e_ret pm_a202_77 rfl rfl rfl rfl rfl rfl rfl rfl ?_
      exact k a fA
    · skip
      show pm_E _ _ _ 56 [(0, .ref 18), (1, .int (iI x)), (2, .int (iI t)), (3, .int (iI m)), (4, .int (iI i))] [] _ _ _ _
      refine pm_e_sim pm_a202_56 rfl ?_
      show pm_E _ _ _ 57 [(0, .ref 18), (1, .int (iI x)), (2, .int (iI t)), (3, .int (iI m)), (4, .int (iI i))] [.ref 18] _ _ _ _
      refine pm_i_get pm_a202_57 rfl (mh_get (j := 0) hA rfl) rfl ?_
      show pm_E _ _ _ 60 [(0, .ref 18), (1, .int (iI x)), (2, .int (iI t)), (3, .int (iI m)), (4, .int (iI i))] [.ref 46] _ _ _ _
      refine pm_e_sim pm_a202_60 rfl ?_
      show pm_E _ _ _ 62 [(0, .ref 18), (1, .int (iI x)), (2, .int (iI t)), (3, .int (iI m)), (4, .int (iI i))] [.int (iI i), .ref 46] _ _ _ _
      refine pm_e_sim pm_a202_62 rfl ?_
      show pm_E _ _ _ 63 [(0, .ref 18), (1, .int (iI x)), (2, .int (iI t)), (3, .int (iI m)), (4, .int (iI i))] [.ref 18, .int (iI i), .ref 46] _ _ _ _
      refine pm_i_get pm_a202_63 rfl (mh_get (j := 0) hA rfl) rfl ?_
      show pm_E _ _ _ 66 [(0, .ref 18), (1, .int (iI x)), (2, .int (iI t)), (3, .int (iI m)), (4, .int (iI i))] [.ref 47, .int (iI i), .ref 46] _ _ _ _
      refine pm_e_sim pm_a202_66 rfl ?_
      show pm_E _ _ _ 68 [(0, .ref 18), (1, .int (iI x)), (2, .int (iI t)), (3, .int (iI m)), (4, .int (iI i))] [.int (iI i), .ref 47, .int (iI i), .ref 46] _ _ _ _
      refine pm_i_ald pm_a202_68 (mh_get (j := 29) hA rfl) (by omega) (by omega) ⟨by omega, by omega⟩ ?_
      show pm_E _ _ _ 69 [(0, .ref 18), (1, .int (iI x)), (2, .int (iI t)), (3, .int (iI m)), (4, .int (iI i))] [.int (iI ((a 29) (i))), .int (iI i), .ref 46] _ _ _ _
      refine pm_i_ast pm_a202_69 (mh_get (j := 28) hA rfl) (by omega) (by omega) ⟨by omega, by omega⟩ (ma_28 hA _) ?_
      show pm_E _ _ _ 70 [(0, .ref 18), (1, .int (iI x)), (2, .int (iI t)), (3, .int (iI m)), (4, .int (iI i))] [] _ _ _ _
      refine pm_e_inc (y := iI (i + 1)) pm_a202_70 rfl (iI_add _ _) (by decide +kernel) rfl ?_
      show pm_E _ _ _ 73 [(0, .ref 18), (1, .int (iI x)), (2, .int (iI t)), (3, .int (iI m)), (4, .int (iI (i + 1)))] [] _ _ _ _
      refine pm_e_goto pm_a202_73 rfl ?_
      show pm_E _ _ _ 50 [(0, .ref 18), (1, .int (iI x)), (2, .int (iI t)), (3, .int (iI m)), (4, .int (iI (i + 1)))] [] _ _ _ _
      exact ih (i + 1) _ (by omega) (by omega) (fun j h => by simp [updA, h, fA j h]) (by omega)
set_option maxHeartbeats 4000000 in
set_option maxRecDepth 100000 in
theorem M_typed {d : Nat} {A B : List va_E} {s : Nat → Int} {vl : Int64} {a : Nat → Int → Int} {nm : Nat → Int64} {Q : Option Value → List va_E → Nat → Nat → Prop} {n x : Int} {T : Int → List Int} (hA : A.length = 18) (hin : ∀ i j, in32 (a i j)) (hok : okT n T) (hsh : sh s a n T) (hx : in32 x) (k : ∀ r s' a', s' 0 = s 0 → (s' 4 = s 4 ∧ s' 30 = s 30 ∧ s' 31 = s 31 ∧ s' 13 = s 13) → (s' 45 = s 45 ∨ (0 ≤ s' 45 ∧ s' 45 ≤ 500)) → a' 1 = a 1 → a' 2 = a 2 → a' 3 = a 3 → Q (some (.int (iI r))) (mh A s' vl a' nm B) 0 0) : pm_E none (d + 4) pm_mm202 0 [(0, .ref 18), (1, .int (iI x))] [] (mh A s vl a nm B) 0 0 Q := by
  obtain ⟨on0, on1, okk⟩ := id hok
  have s0 := hsh.1
  refine pm_e_sim pm_a202_0 rfl ?_
  show pm_E _ _ _ 1 [(0, .ref 18), (1, .int (iI x))] [.ref 18] _ _ _ _
  refine pm_e_sim pm_a202_1 rfl ?_
  show pm_E _ _ _ 2 [(0, .ref 18), (1, .int (iI x))] [.int (iI x), .ref 18] _ _ _ _
  refine pm_i_callv (k := 18) (T2 := pm_mm165) pm_a202_2 rfl rfl rfl (mh_get (j := 0) hA rfl) ⟨Nat.le_of_ble_eq_true rfl, Nat.le_of_ble_eq_true rfl, rfl, by decide +kernel⟩ ?_
  show pm_E none _ _ 0 [(0, .ref 18), (1, .int (iI x))] [] _ _ _ _
  refine M_isTerm hA ⟨by omega, by omega⟩ (by omega) (by omega) (fun h_1 => ?_) (fun h_1 => ?_)
  · skip
    show pm_E _ _ _ 5 [(0, .ref 18), (1, .int (iI x))] [.int (iI 1)] _ _ _ _
    refine pm_e_ift pm_a202_5 rfl (by decide +kernel) ?_
    show pm_E _ _ _ 10 [(0, .ref 18), (1, .int (iI x))] [] _ _ _ _
    refine pm_e_sim pm_a202_10 rfl ?_
    show pm_E _ _ _ 11 [(0, .ref 18), (1, .int (iI x))] [.ref 18] _ _ _ _
    refine pm_e_sim pm_a202_11 rfl ?_
    show pm_E _ _ _ 12 [(0, .ref 18), (1, .int (iI x))] [.int (iI x), .ref 18] _ _ _ _
    refine pm_i_callv (k := 18) (T2 := pm_mm168) pm_a202_12 rfl rfl rfl (mh_get (j := 0) hA rfl) ⟨Nat.le_of_ble_eq_true rfl, Nat.le_of_ble_eq_true rfl, rfl, by decide +kernel⟩ ?_
    show pm_E none _ _ 0 [(0, .ref 18), (1, .int (iI x))] [] _ _ _ _
    obtain ⟨tl, ft, tt⟩ := hok.2.2 x (by omega) (by omega)
    have tp := tL_pos tt
    have ts := (hsh.2 x (by omega) (by omega)).1
    have tk := sh_take hsh (x := x) (by omega) (by omega)
    refine M_take hA (by omega) (by omega) (by omega) (by omega) (fun s1 a1 es ea => ?_)
    have e6 : s1 6 = (T x).length := by rw [es, ← ts]; rfl
    have t1 : tm (a1 4) ft 0 0 (s1 6) := by rw [e6, ea]; exact tL_tm0 tt tk
    have hr1 : ∀ j, in32 (a1 4 j) := fun j => by rw [ea]; exact cpI_in (hin 4) (hin 2) j
    have g1 : rg (a1 4) (T x).length 0 = T x := by rw [ea]; exact tk
    show pm_E _ _ _ 15 [(0, .ref 18), (1, .int (iI x))] [] _ _ _ _
    refine pm_e_sim pm_a202_15 rfl ?_
    show pm_E _ _ _ 16 [(0, .ref 18), (1, .int (iI x))] [.ref 18] _ _ _ _
    refine pm_i_callv (k := 18) (T2 := pm_mm203) pm_a202_16 rfl rfl rfl (mh_get (j := 0) hA rfl) ⟨Nat.le_of_ble_eq_true rfl, Nat.le_of_ble_eq_true rfl, rfl, by decide +kernel⟩ ?_
    show pm_E none _ _ 0 [(0, .ref 18)] [] _ _ _ _
    refine M_infers hA (by omega) (by omega) hr1 t1 (fun t s2 a2 r0 r1 hF2 hk2 gs2 ga2 => ?_)
    show pm_E _ _ _ 19 [(0, .ref 18), (1, .int (iI x))] [.int (iI t)] _ _ _ _
    refine pm_e_sim pm_a202_19 rfl ?_
    show pm_E _ _ _ 20 [(0, .ref 18), (1, .int (iI x)), (2, .int (iI t))] [] _ _ _ _
    refine pm_e_sim pm_a202_20 rfl ?_
    show pm_E _ _ _ 21 [(0, .ref 18), (1, .int (iI x)), (2, .int (iI t))] [.ref 18] _ _ _ _
    refine pm_i_callv (k := 18) (T2 := pm_mm209) pm_a202_21 rfl rfl rfl (mh_get (j := 0) hA rfl) ⟨Nat.le_of_ble_eq_true rfl, Nat.le_of_ble_eq_true rfl, rfl, by decide +kernel⟩ ?_
    show pm_E none _ _ 0 [(0, .ref 18)] [] _ _ _ _
    refine M_isFinite hA hF2 (by omega) (fun b hb a3 ga3 => ?_)
    have hF3 : FI (a3 17) (a3 18) (a3 19) (s2 32) := by rw [ga3 17 (by omega) (by omega), ga3 18 (by omega) (by omega), ga3 19 (by omega) (by omega)]; exact hF2
    show pm_E _ _ _ 24 [(0, .ref 18), (1, .int (iI x)), (2, .int (iI t))] [.int (iI b)] _ _ _ _
    refine pm_i_ne (t := 30) pm_a202_24 rfl ⟨by omega, by omega⟩ (fun h_2 => ?_) (fun h_2 => ?_)
    · skip
      show pm_E _ _ _ 30 [(0, .ref 18), (1, .int (iI x)), (2, .int (iI t))] [] _ _ _ _
      refine pm_e_sim pm_a202_30 rfl ?_
      show pm_E _ _ _ 31 [(0, .ref 18), (1, .int (iI x)), (2, .int (iI t))] [.ref 18] _ _ _ _
      refine pm_e_sim pm_a202_31 rfl ?_
      show pm_E _ _ _ 32 [(0, .ref 18), (1, .int (iI x)), (2, .int (iI t))] [.int (iI t), .ref 18] _ _ _ _
      refine pm_i_callv (k := 18) (T2 := pm_mm210) pm_a202_32 rfl rfl rfl (mh_get (j := 0) hA rfl) ⟨Nat.le_of_ble_eq_true rfl, Nat.le_of_ble_eq_true rfl, rfl, by decide +kernel⟩ ?_
      show pm_E none _ _ 0 [(0, .ref 18), (1, .int (iI t))] [] _ _ _ _
      refine M_lays hA hF3 (by omega) (by omega) (fun m a4 hm ga4 => ?_)
      show pm_E _ _ _ 35 [(0, .ref 18), (1, .int (iI x)), (2, .int (iI t))] [.int (iI m)] _ _ _ _
      refine pm_e_sim pm_a202_35 rfl ?_
      show pm_E _ _ _ 36 [(0, .ref 18), (1, .int (iI x)), (2, .int (iI t)), (3, .int (iI m))] [] _ _ _ _
      refine pm_e_sim pm_a202_36 rfl ?_
      show pm_E _ _ _ 37 [(0, .ref 18), (1, .int (iI x)), (2, .int (iI t)), (3, .int (iI m))] [.int (iI m)] _ _ _ _
      refine pm_e_sim pm_a202_37 rfl ?_
      refine pm_e_top (y := iI (-3)) (by decide +kernel) ?_
      show pm_E _ _ _ 39 [(0, .ref 18), (1, .int (iI x)), (2, .int (iI t)), (3, .int (iI m))] [.int (iI (-3)), .int (iI m)] _ _ _ _
      refine pm_c_eq (t := 76) pm_a202_39 rfl ⟨by omega, by omega⟩ ⟨by omega, by omega⟩ (fun h_3 => ?_) (fun h_3 => ?_)
      · skip
        show pm_E _ _ _ 76 [(0, .ref 18), (1, .int (iI x)), (2, .int (iI t)), (3, .int (iI m))] [] _ _ _ _
        refine pm_e_sim pm_a202_76 rfl ?_
        show pm_E _ _ _ 77 [(0, .ref 18), (1, .int (iI x)), (2, .int (iI t)), (3, .int (iI m))] [.int (iI m)] _ _ _ _
        refine pm_e_ret pm_a202_77 rfl rfl rfl rfl rfl rfl rfl rfl ?_
        exact k _ s2 a4 (by rw [gs2 0 (by omega), es]; rfl) ⟨by rw [gs2 4 (by omega), es]; rfl, by rw [gs2 30 (by omega), es]; rfl, by rw [gs2 31 (by omega), es]; rfl, by rw [gs2 13 (by omega), es]; rfl⟩ (Or.inl (by rw [gs2 45 (by omega), es]; rfl)) (by rw [ga4 1 (by omega) (by omega) (by omega), ga3 1 (by omega) (by omega), ga2 1 (by omega) (by omega) (by omega) (by omega) (by omega) (by omega) (by omega) (by omega) (by omega) (by omega) (by omega), ea]; rfl) (by rw [ga4 2 (by omega) (by omega) (by omega), ga3 2 (by omega) (by omega), ga2 2 (by omega) (by omega) (by omega) (by omega) (by omega) (by omega) (by omega) (by omega) (by omega) (by omega) (by omega), ea]; rfl) (by rw [ga4 3 (by omega) (by omega) (by omega), ga3 3 (by omega) (by omega), ga2 3 (by omega) (by omega) (by omega) (by omega) (by omega) (by omega) (by omega) (by omega) (by omega) (by omega) (by omega), ea]; rfl)
      · skip
        show pm_E _ _ _ 42 [(0, .ref 18), (1, .int (iI x)), (2, .int (iI t)), (3, .int (iI m))] [] _ _ _ _
        refine pm_e_sim pm_a202_42 rfl ?_
        show pm_E _ _ _ 43 [(0, .ref 18), (1, .int (iI x)), (2, .int (iI t)), (3, .int (iI m))] [.ref 18] _ _ _ _
        refine pm_e_sim pm_a202_43 rfl ?_
        show pm_E _ _ _ 44 [(0, .ref 18), (1, .int (iI x)), (2, .int (iI t)), (3, .int (iI m))] [.int (iI m), .ref 18] _ _ _ _
        refine pm_i_put pm_a202_44 rfl (mh_get (j := 0) hA rfl) rfl (Nat.le_of_ble_eq_true rfl) (Or.inl rfl) (mw_45 hA _) ?_
        show pm_E _ _ _ 47 [(0, .ref 18), (1, .int (iI x)), (2, .int (iI t)), (3, .int (iI m))] [] _ _ _ _
        refine pm_e_sim pm_a202_47 rfl ?_
        refine pm_e_top (y := iI 0) (by decide +kernel) ?_
        show pm_E _ _ _ 48 [(0, .ref 18), (1, .int (iI x)), (2, .int (iI t)), (3, .int (iI m))] [.int (iI 0)] _ _ _ _
        refine pm_e_sim pm_a202_48 rfl ?_
        show pm_E _ _ _ 50 [(0, .ref 18), (1, .int (iI x)), (2, .int (iI t)), (3, .int (iI m)), (4, .int (iI 0))] [] _ _ _ _
        refine M_typed_l (a0 := a4) hA (by omega) (by omega) ?_ 501 0 _ (by omega) (by omega) (fun j _ => rfl) (by omega)
        intro a5 ga5
        exact k _ _ a5 (by show s2 0 = s 0; rw [gs2 0 (by omega), es]; rfl) ⟨by show s2 4 = s 4; rw [gs2 4 (by omega), es]; rfl, by show s2 30 = s 30; rw [gs2 30 (by omega), es]; rfl, by show s2 31 = s 31; rw [gs2 31 (by omega), es]; rfl, by show s2 13 = s 13; rw [gs2 13 (by omega), es]; rfl⟩ (Or.inr ⟨by show 0 ≤ m; omega, by show m ≤ 500; omega⟩) (by rw [ga5 1 (by omega), ga4 1 (by omega) (by omega) (by omega), ga3 1 (by omega) (by omega), ga2 1 (by omega) (by omega) (by omega) (by omega) (by omega) (by omega) (by omega) (by omega) (by omega) (by omega) (by omega), ea]; rfl) (by rw [ga5 2 (by omega), ga4 2 (by omega) (by omega) (by omega), ga3 2 (by omega) (by omega), ga2 2 (by omega) (by omega) (by omega) (by omega) (by omega) (by omega) (by omega) (by omega) (by omega) (by omega) (by omega), ea]; rfl) (by rw [ga5 3 (by omega), ga4 3 (by omega) (by omega) (by omega), ga3 3 (by omega) (by omega), ga2 3 (by omega) (by omega) (by omega) (by omega) (by omega) (by omega) (by omega) (by omega) (by omega) (by omega) (by omega), ea]; rfl)
    · skip
      show pm_E _ _ _ 27 [(0, .ref 18), (1, .int (iI x)), (2, .int (iI t))] [] _ _ _ _
      refine pm_e_sim pm_a202_27 rfl ?_
      refine pm_e_top (y := iI (-4)) (by decide +kernel) ?_
      show pm_E _ _ _ 29 [(0, .ref 18), (1, .int (iI x)), (2, .int (iI t))] [.int (iI (-4))] _ _ _ _
      refine pm_e_ret pm_a202_29 rfl rfl rfl rfl rfl rfl rfl rfl ?_
      exact k _ s2 a3 (by rw [gs2 0 (by omega), es]; rfl) ⟨by rw [gs2 4 (by omega), es]; rfl, by rw [gs2 30 (by omega), es]; rfl, by rw [gs2 31 (by omega), es]; rfl, by rw [gs2 13 (by omega), es]; rfl⟩ (Or.inl (by rw [gs2 45 (by omega), es]; rfl)) (by rw [ga3 1 (by omega) (by omega), ga2 1 (by omega) (by omega) (by omega) (by omega) (by omega) (by omega) (by omega) (by omega) (by omega) (by omega) (by omega), ea]; rfl) (by rw [ga3 2 (by omega) (by omega), ga2 2 (by omega) (by omega) (by omega) (by omega) (by omega) (by omega) (by omega) (by omega) (by omega) (by omega) (by omega), ea]; rfl) (by rw [ga3 3 (by omega) (by omega), ga2 3 (by omega) (by omega) (by omega) (by omega) (by omega) (by omega) (by omega) (by omega) (by omega) (by omega) (by omega), ea]; rfl)
  · skip
    show pm_E _ _ _ 5 [(0, .ref 18), (1, .int (iI x))] [.int (iI 0)] _ _ _ _
    refine pm_e_iff pm_a202_5 rfl (by decide +kernel) ?_
    show pm_E _ _ _ 8 [(0, .ref 18), (1, .int (iI x))] [] _ _ _ _
    refine pm_e_sim pm_a202_8 rfl ?_
    refine pm_e_top (y := iI (-1)) (by decide +kernel) ?_
    show pm_E _ _ _ 9 [(0, .ref 18), (1, .int (iI x))] [.int (iI (-1))] _ _ _ _
    refine pm_e_ret pm_a202_9 rfl rfl rfl rfl rfl rfl rfl rfl ?_
    exact k _ s a rfl ⟨rfl, rfl, rfl, rfl⟩ (Or.inl rfl) rfl rfl rfl
set_option maxHeartbeats 4000000 in
set_option maxRecDepth 100000 in
theorem M_type {d : Nat} {A B : List va_E} {s : Nat → Int} {vl : Int64} {a : Nat → Int → Int} {nm : Nat → Int64} {Q : Option Value → List va_E → Nat → Nat → Prop} {i : Int} (hA : A.length = 18) (hi : in32 i) (h0 : 0 ≤ s 45) (h1 : s 45 ≤ 500) (k : ∀ r, Q (some (.int (iI r))) (mh A s vl a nm B) 0 0) : pm_E none (d + 1) pm_mm211 0 [(0, .ref 18), (1, .int (iI i))] [] (mh A s vl a nm B) 0 0 Q := by
  refine pm_e_sim pm_a211_0 rfl ?_
  show pm_E _ _ _ 1 [(0, .ref 18), (1, .int (iI i))] [.int (iI i)] _ _ _ _
  refine pm_e_sim pm_a211_1 rfl ?_
  refine pm_l_top (y := lI (i)) (iI_l ⟨by omega, by omega⟩) ?_
  show pm_E _ _ _ 2 [(0, .ref 18), (1, .int (iI i))] [.long (lI i)] _ _ _ _
  refine pm_e_sim pm_a211_2 rfl ?_
  refine pm_l_top (y := lI 0) (by decide +kernel) ?_
  show pm_E _ _ _ 3 [(0, .ref 18), (1, .int (iI i))] [.long (lI 0), .long (lI i)] _ _ _ _
  refine pm_e_sim pm_a211_3 rfl ?_
  show pm_E _ _ _ 4 [(0, .ref 18), (1, .int (iI i))] [.ref 18, .long (lI 0), .long (lI i)] _ _ _ _
  refine pm_i_get pm_a211_4 rfl (mh_get (j := 0) hA rfl) rfl ?_
  show pm_E _ _ _ 7 [(0, .ref 18), (1, .int (iI i))] [.int (iI (s 45)), .long (lI 0), .long (lI i)] _ _ _ _
  refine pm_e_sim pm_a211_7 rfl ?_
  refine pm_e_top (y := iI 1) (by decide +kernel) ?_
  show pm_E _ _ _ 8 [(0, .ref 18), (1, .int (iI i))] [.int (iI 1), .int (iI (s 45)), .long (lI 0), .long (lI i)] _ _ _ _
  refine pm_e_sim pm_a211_8 rfl ?_
  refine pm_e_top (y := iI (s 45 - 1)) (iI_sub _ _) ?_
  show pm_E _ _ _ 9 [(0, .ref 18), (1, .int (iI i))] [.int (iI (s 45 - 1)), .long (lI 0), .long (lI i)] _ _ _ _
  refine pm_e_sim pm_a211_9 rfl ?_
  refine pm_l_top (y := lI (s 45 - 1)) (iI_l ⟨by omega, by omega⟩) ?_
  show pm_E _ _ _ 10 [(0, .ref 18), (1, .int (iI i))] [.long (lI (s 45 - 1)), .long (lI 0), .long (lI i)] _ _ _ _
  refine pm_e_call (T2 := pm_mm147) pm_a211_10 rfl rfl rfl rfl rfl rfl rfl rfl rfl ?_
  show pm_E none _ _ 0 [(0, .long (lI i)), (2, .long (lI 0)), (4, .long (lI (s 45 - 1)))] [] _ _ _ _
  refine M_in ⟨by omega, by omega⟩ ⟨by omega, by omega⟩ ⟨by omega, by omega⟩ (fun h_1 => ?_) (fun h_1 => ?_)
  · skip
    show pm_E _ _ _ 13 [(0, .ref 18), (1, .int (iI i))] [.int (iI 1)] _ _ _ _
    refine pm_e_iff pm_a211_13 rfl (by decide +kernel) ?_
    show pm_E _ _ _ 16 [(0, .ref 18), (1, .int (iI i))] [] _ _ _ _
    refine pm_e_sim pm_a211_16 rfl ?_
    show pm_E _ _ _ 17 [(0, .ref 18), (1, .int (iI i))] [.ref 18] _ _ _ _
    refine pm_i_get pm_a211_17 rfl (mh_get (j := 0) hA rfl) rfl ?_
    show pm_E _ _ _ 20 [(0, .ref 18), (1, .int (iI i))] [.ref 46] _ _ _ _
    refine pm_e_sim pm_a211_20 rfl ?_
    show pm_E _ _ _ 21 [(0, .ref 18), (1, .int (iI i))] [.int (iI i), .ref 46] _ _ _ _
    refine pm_i_ald pm_a211_21 (mh_get (j := 28) hA rfl) (by omega) (by omega) ⟨by omega, by omega⟩ ?_
    show pm_E _ _ _ 22 [(0, .ref 18), (1, .int (iI i))] [.int (iI ((a 28) (i)))] _ _ _ _
    refine pm_e_goto pm_a211_22 rfl ?_
    show pm_E _ _ _ 26 [(0, .ref 18), (1, .int (iI i))] [.int (iI ((a 28) (i)))] _ _ _ _
    refine pm_e_ret pm_a211_26 rfl rfl rfl rfl rfl rfl rfl rfl ?_
    exact k _
  · skip
    show pm_E _ _ _ 13 [(0, .ref 18), (1, .int (iI i))] [.int (iI 0)] _ _ _ _
    refine pm_e_ift pm_a211_13 rfl (by decide +kernel) ?_
    show pm_E _ _ _ 25 [(0, .ref 18), (1, .int (iI i))] [] _ _ _ _
    refine pm_e_sim pm_a211_25 rfl ?_
    refine pm_e_top (y := iI (-1)) (by decide +kernel) ?_
    show pm_E _ _ _ 26 [(0, .ref 18), (1, .int (iI i))] [.int (iI (-1))] _ _ _ _
    refine pm_e_ret pm_a211_26 rfl rfl rfl rfl rfl rfl rfl rfl ?_
    exact k _
