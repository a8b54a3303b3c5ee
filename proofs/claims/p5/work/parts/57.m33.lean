/-! THE REFERENCE: about -/
set_option maxHeartbeats 4000000 in
set_option maxRecDepth 100000 in
theorem M_about_l {d : Nat} {A B : List va_E} {s : Nat → Int} {vl : Int64} {a : Nat → Int → Int} {nm : Nat → Int64} {Q : Option Value → List va_E → Nat → Nat → Prop} {x w : Int} (hA : A.length = 18) (hr : ∀ j, in32 (a 4 j)) (hd : ∀ j, 0 ≤ j → j < s 6 → 0 ≤ a 5 j ∧ a 5 j ≤ 1000) (h6 : 0 ≤ s 6) (h61 : s 6 ≤ 500) (hw : in32 w) (k : ∀ r, Q (some (.int (iI r))) (mh A s vl a nm B) 0 0) : ∀ (f : Nat) (i mo va le : Int), 0 ≤ i → i ≤ s 6 → (0 ≤ mo ∧ mo ≤ 2000) → (0 ≤ va ∧ va ≤ i) → (0 ≤ le ∧ le ≤ i) → s 6 - i < (f : Int) → pm_E none (d + 2) pm_mm212 43 [(0, .ref 18), (1, .int (iI x)), (2, .int (iI w)), (3, .int (iI mo)), (4, .int (iI va)), (5, .int (iI le)), (6, .int (iI i))] [] (mh A s vl a nm B) 0 0 Q := by
  intro f
  induction f with
  | zero =>
    intro i mo va le h0 h1 hm hv hl hf
    exfalso; omega
  | succ f ih =>
    intro i mo va le h0 h1 hm hv hl hf
    refine pm_e_sim pm_a212_43 rfl ?_
    show pm_E _ _ _ 45 [(0, .ref 18), (1, .int (iI x)), (2, .int (iI w)), (3, .int (iI mo)), (4, .int (iI va)), (5, .int (iI le)), (6, .int (iI i))] [.int (iI i)] _ _ _ _
    refine pm_e_sim pm_a212_45 rfl ?_
    show pm_E _ _ _ 46 [(0, .ref 18), (1, .int (iI x)), (2, .int (iI w)), (3, .int (iI mo)), (4, .int (iI va)), (5, .int (iI le)), (6, .int (iI i))] [.ref 18, .int (iI i)] _ _ _ _
    refine pm_i_get pm_a212_46 rfl (mh_get (j := 0) hA rfl) rfl ?_
    show pm_E _ _ _ 49 [(0, .ref 18), (1, .int (iI x)), (2, .int (iI w)), (3, .int (iI mo)), (4, .int (iI va)), (5, .int (iI le)), (6, .int (iI i))] [.int (iI (s 6)), .int (iI i)] _ _ _ _
    refine pm_c_ge (t := 148) pm_a212_49 rfl ⟨by omega, by omega⟩ ⟨by omega, by omega⟩ (fun h_1 => ?_) (fun h_1 => ?_)
    · skip
      show pm_E _ _ _ 148 [(0, .ref 18), (1, .int (iI x)), (2, .int (iI w)), (3, .int (iI mo)), (4, .int (iI va)), (5, .int (iI le)), (6, .int (iI i))] [] _ _ _ _
      refine pm_e_sim pm_a212_148 rfl ?_
      show pm_E _ _ _ 149 [(0, .ref 18), (1, .int (iI x)), (2, .int (iI w)), (3, .int (iI mo)), (4, .int (iI va)), (5, .int (iI le)), (6, .int (iI i))] [.int (iI w)] _ _ _ _
      refine pm_i_ne (t := 156) pm_a212_149 rfl ⟨by omega, by omega⟩ (fun h_2 => ?_) (fun h_2 => ?_)
      · skip
        show pm_E _ _ _ 156 [(0, .ref 18), (1, .int (iI x)), (2, .int (iI w)), (3, .int (iI mo)), (4, .int (iI va)), (5, .int (iI le)), (6, .int (iI i))] [] _ _ _ _
        refine pm_e_sim pm_a212_156 rfl ?_
        show pm_E _ _ _ 157 [(0, .ref 18), (1, .int (iI x)), (2, .int (iI w)), (3, .int (iI mo)), (4, .int (iI va)), (5, .int (iI le)), (6, .int (iI i))] [.int (iI w)] _ _ _ _
        refine pm_e_sim pm_a212_157 rfl ?_
        refine pm_e_top (y := iI 1) (by decide +kernel) ?_
        show pm_E _ _ _ 158 [(0, .ref 18), (1, .int (iI x)), (2, .int (iI w)), (3, .int (iI mo)), (4, .int (iI va)), (5, .int (iI le)), (6, .int (iI i))] [.int (iI 1), .int (iI w)] _ _ _ _
        refine pm_c_ne (t := 173) pm_a212_158 rfl ⟨by omega, by omega⟩ ⟨by omega, by omega⟩ (fun h_3 => ?_) (fun h_3 => ?_)
        · skip
          show pm_E _ _ _ 173 [(0, .ref 18), (1, .int (iI x)), (2, .int (iI w)), (3, .int (iI mo)), (4, .int (iI va)), (5, .int (iI le)), (6, .int (iI i))] [] _ _ _ _
          refine pm_e_sim pm_a212_173 rfl ?_
          show pm_E _ _ _ 174 [(0, .ref 18), (1, .int (iI x)), (2, .int (iI w)), (3, .int (iI mo)), (4, .int (iI va)), (5, .int (iI le)), (6, .int (iI i))] [.int (iI w)] _ _ _ _
          refine pm_e_sim pm_a212_174 rfl ?_
          refine pm_e_top (y := iI 2) (by decide +kernel) ?_
          show pm_E _ _ _ 175 [(0, .ref 18), (1, .int (iI x)), (2, .int (iI w)), (3, .int (iI mo)), (4, .int (iI va)), (5, .int (iI le)), (6, .int (iI i))] [.int (iI 2), .int (iI w)] _ _ _ _
          refine pm_c_ne (t := 183) pm_a212_175 rfl ⟨by omega, by omega⟩ ⟨by omega, by omega⟩ (fun h_4 => ?_) (fun h_4 => ?_)
          · skip
            show pm_E _ _ _ 183 [(0, .ref 18), (1, .int (iI x)), (2, .int (iI w)), (3, .int (iI mo)), (4, .int (iI va)), (5, .int (iI le)), (6, .int (iI i))] [] _ _ _ _
            refine pm_e_sim pm_a212_183 rfl ?_
            show pm_E _ _ _ 184 [(0, .ref 18), (1, .int (iI x)), (2, .int (iI w)), (3, .int (iI mo)), (4, .int (iI va)), (5, .int (iI le)), (6, .int (iI i))] [.int (iI w)] _ _ _ _
            refine pm_e_sim pm_a212_184 rfl ?_
            refine pm_e_top (y := iI 3) (by decide +kernel) ?_
            show pm_E _ _ _ 185 [(0, .ref 18), (1, .int (iI x)), (2, .int (iI w)), (3, .int (iI mo)), (4, .int (iI va)), (5, .int (iI le)), (6, .int (iI i))] [.int (iI 3), .int (iI w)] _ _ _ _
            refine pm_c_ne (t := 193) pm_a212_185 rfl ⟨by omega, by omega⟩ ⟨by omega, by omega⟩ (fun h_5 => ?_) (fun h_5 => ?_)
            · skip
              show pm_E _ _ _ 193 [(0, .ref 18), (1, .int (iI x)), (2, .int (iI w)), (3, .int (iI mo)), (4, .int (iI va)), (5, .int (iI le)), (6, .int (iI i))] [] _ _ _ _
              refine pm_e_sim pm_a212_193 rfl ?_
              show pm_E _ _ _ 194 [(0, .ref 18), (1, .int (iI x)), (2, .int (iI w)), (3, .int (iI mo)), (4, .int (iI va)), (5, .int (iI le)), (6, .int (iI i))] [.ref 18] _ _ _ _
              refine pm_i_callv (k := 18) (T2 := pm_mm193) pm_a212_194 rfl rfl rfl (mh_get (j := 0) hA rfl) ⟨Nat.le_of_ble_eq_true rfl, Nat.le_of_ble_eq_true rfl, rfl, by decide +kernel⟩ ?_
              show pm_E none _ _ 0 [(0, .ref 18)] [] _ _ _ _
              refine M_count0 hA hr (by omega) (by omega) ?_
              generalize cnt (a 4) (s 6) (s 6).toNat 0 0 = cq
              obtain ⟨z, hz, hz2⟩ : ∃ z, iI cq = iI z ∧ in32 z := ⟨(iI cq).toInt, (iI_of _).symm, in32_of _⟩
              rw [hz]
              obtain ⟨hz3, hz4⟩ := hz2
              show pm_E _ _ _ 197 [(0, .ref 18), (1, .int (iI x)), (2, .int (iI w)), (3, .int (iI mo)), (4, .int (iI va)), (5, .int (iI le)), (6, .int (iI i))] [.int (iI z)] _ _ _ _
              refine pm_i_ne (t := 204) pm_a212_197 rfl ⟨by omega, by omega⟩ (fun h_6 => ?_) (fun h_6 => ?_)
              · skip
                show pm_E _ _ _ 204 [(0, .ref 18), (1, .int (iI x)), (2, .int (iI w)), (3, .int (iI mo)), (4, .int (iI va)), (5, .int (iI le)), (6, .int (iI i))] [] _ _ _ _
                refine pm_e_sim pm_a212_204 rfl ?_
                refine pm_e_top (y := iI 0) (by decide +kernel) ?_
                show pm_E _ _ _ 205 [(0, .ref 18), (1, .int (iI x)), (2, .int (iI w)), (3, .int (iI mo)), (4, .int (iI va)), (5, .int (iI le)), (6, .int (iI i))] [.int (iI 0)] _ _ _ _
                refine pm_e_ret pm_a212_205 rfl rfl rfl rfl rfl rfl rfl rfl ?_
                exact k _
              · skip
                show pm_E _ _ _ 200 [(0, .ref 18), (1, .int (iI x)), (2, .int (iI w)), (3, .int (iI mo)), (4, .int (iI va)), (5, .int (iI le)), (6, .int (iI i))] [] _ _ _ _
                refine pm_e_sim pm_a212_200 rfl ?_
                refine pm_e_top (y := iI 1) (by decide +kernel) ?_
                show pm_E _ _ _ 201 [(0, .ref 18), (1, .int (iI x)), (2, .int (iI w)), (3, .int (iI mo)), (4, .int (iI va)), (5, .int (iI le)), (6, .int (iI i))] [.int (iI 1)] _ _ _ _
                refine pm_e_goto pm_a212_201 rfl ?_
                show pm_E _ _ _ 205 [(0, .ref 18), (1, .int (iI x)), (2, .int (iI w)), (3, .int (iI mo)), (4, .int (iI va)), (5, .int (iI le)), (6, .int (iI i))] [.int (iI 1)] _ _ _ _
                refine pm_e_ret pm_a212_205 rfl rfl rfl rfl rfl rfl rfl rfl ?_
                exact k _
            · skip
              show pm_E _ _ _ 188 [(0, .ref 18), (1, .int (iI x)), (2, .int (iI w)), (3, .int (iI mo)), (4, .int (iI va)), (5, .int (iI le)), (6, .int (iI i))] [] _ _ _ _
              refine pm_e_sim pm_a212_188 rfl ?_
              show pm_E _ _ _ 190 [(0, .ref 18), (1, .int (iI x)), (2, .int (iI w)), (3, .int (iI mo)), (4, .int (iI va)), (5, .int (iI le)), (6, .int (iI i))] [.int (iI le)] _ _ _ _
              refine pm_e_goto pm_a212_190 rfl ?_
              show pm_E _ _ _ 205 [(0, .ref 18), (1, .int (iI x)), (2, .int (iI w)), (3, .int (iI mo)), (4, .int (iI va)), (5, .int (iI le)), (6, .int (iI i))] [.int (iI le)] _ _ _ _
              refine pm_e_ret pm_a212_205 rfl rfl rfl rfl rfl rfl rfl rfl ?_
              exact k _
          · skip
            show pm_E _ _ _ 178 [(0, .ref 18), (1, .int (iI x)), (2, .int (iI w)), (3, .int (iI mo)), (4, .int (iI va)), (5, .int (iI le)), (6, .int (iI i))] [] _ _ _ _
            refine pm_e_sim pm_a212_178 rfl ?_
            show pm_E _ _ _ 180 [(0, .ref 18), (1, .int (iI x)), (2, .int (iI w)), (3, .int (iI mo)), (4, .int (iI va)), (5, .int (iI le)), (6, .int (iI i))] [.int (iI va)] _ _ _ _
            refine pm_e_goto pm_a212_180 rfl ?_
            show pm_E _ _ _ 205 [(0, .ref 18), (1, .int (iI x)), (2, .int (iI w)), (3, .int (iI mo)), (4, .int (iI va)), (5, .int (iI le)), (6, .int (iI i))] [.int (iI va)] _ _ _ _
            refine pm_e_ret pm_a212_205 rfl rfl rfl rfl rfl rfl rfl rfl ?_
            exact k _
        · skip
          show pm_E _ _ _ 161 [(0, .ref 18), (1, .int (iI x)), (2, .int (iI w)), (3, .int (iI mo)), (4, .int (iI va)), (5, .int (iI le)), (6, .int (iI i))] [] _ _ _ _
          refine pm_e_sim pm_a212_161 rfl ?_
          show pm_E _ _ _ 162 [(0, .ref 18), (1, .int (iI x)), (2, .int (iI w)), (3, .int (iI mo)), (4, .int (iI va)), (5, .int (iI le)), (6, .int (iI i))] [.int (iI mo)] _ _ _ _
          refine pm_i_le (t := 169) pm_a212_162 rfl ⟨by omega, by omega⟩ (fun h_7 => ?_) (fun h_7 => ?_)
          · skip
            show pm_E _ _ _ 169 [(0, .ref 18), (1, .int (iI x)), (2, .int (iI w)), (3, .int (iI mo)), (4, .int (iI va)), (5, .int (iI le)), (6, .int (iI i))] [] _ _ _ _
            refine pm_e_sim pm_a212_169 rfl ?_
            refine pm_e_top (y := iI 0) (by decide +kernel) ?_
            show pm_E _ _ _ 170 [(0, .ref 18), (1, .int (iI x)), (2, .int (iI w)), (3, .int (iI mo)), (4, .int (iI va)), (5, .int (iI le)), (6, .int (iI i))] [.int (iI 0)] _ _ _ _
            refine pm_e_goto pm_a212_170 rfl ?_
            show pm_E _ _ _ 205 [(0, .ref 18), (1, .int (iI x)), (2, .int (iI w)), (3, .int (iI mo)), (4, .int (iI va)), (5, .int (iI le)), (6, .int (iI i))] [.int (iI 0)] _ _ _ _
            refine pm_e_ret pm_a212_205 rfl rfl rfl rfl rfl rfl rfl rfl ?_
            exact k _
          · skip
            show pm_E _ _ _ 165 [(0, .ref 18), (1, .int (iI x)), (2, .int (iI w)), (3, .int (iI mo)), (4, .int (iI va)), (5, .int (iI le)), (6, .int (iI i))] [] _ _ _ _
            refine pm_e_sim pm_a212_165 rfl ?_
            refine pm_e_top (y := iI 1) (by decide +kernel) ?_
            show pm_E _ _ _ 166 [(0, .ref 18), (1, .int (iI x)), (2, .int (iI w)), (3, .int (iI mo)), (4, .int (iI va)), (5, .int (iI le)), (6, .int (iI i))] [.int (iI 1)] _ _ _ _
            refine pm_e_goto pm_a212_166 rfl ?_
            show pm_E _ _ _ 205 [(0, .ref 18), (1, .int (iI x)), (2, .int (iI w)), (3, .int (iI mo)), (4, .int (iI va)), (5, .int (iI le)), (6, .int (iI i))] [.int (iI 1)] _ _ _ _
            refine pm_e_ret pm_a212_205 rfl rfl rfl rfl rfl rfl rfl rfl ?_
            exact k _
      · skip
        show pm_E _ _ _ 152 [(0, .ref 18), (1, .int (iI x)), (2, .int (iI w)), (3, .int (iI mo)), (4, .int (iI va)), (5, .int (iI le)), (6, .int (iI i))] [] _ _ _ _
        refine pm_e_sim pm_a212_152 rfl ?_
        show pm_E _ _ _ 153 [(0, .ref 18), (1, .int (iI x)), (2, .int (iI w)), (3, .int (iI mo)), (4, .int (iI va)), (5, .int (iI le)), (6, .int (iI i))] [.int (iI mo)] _ _ _ _
        refine pm_e_goto pm_a212_153 rfl ?_
        show pm_E _ _ _ 205 [(0, .ref 18), (1, .int (iI x)), (2, .int (iI w)), (3, .int (iI mo)), (4, .int (iI va)), (5, .int (iI le)), (6, .int (iI i))] [.int (iI mo)] _ _ _ _
        refine pm_e_ret pm_a212_205 rfl rfl rfl rfl rfl rfl rfl rfl ?_
        exact k _
    · skip
      show pm_E _ _ _ 52 [(0, .ref 18), (1, .int (iI x)), (2, .int (iI w)), (3, .int (iI mo)), (4, .int (iI va)), (5, .int (iI le)), (6, .int (iI i))] [] _ _ _ _
      refine pm_e_sim pm_a212_52 rfl ?_
      show pm_E _ _ _ 53 [(0, .ref 18), (1, .int (iI x)), (2, .int (iI w)), (3, .int (iI mo)), (4, .int (iI va)), (5, .int (iI le)), (6, .int (iI i))] [.ref 18] _ _ _ _
      refine pm_i_get pm_a212_53 rfl (mh_get (j := 0) hA rfl) rfl ?_
      show pm_E _ _ _ 56 [(0, .ref 18), (1, .int (iI x)), (2, .int (iI w)), (3, .int (iI mo)), (4, .int (iI va)), (5, .int (iI le)), (6, .int (iI i))] [.ref 22] _ _ _ _
      refine pm_e_sim pm_a212_56 rfl ?_
      show pm_E _ _ _ 58 [(0, .ref 18), (1, .int (iI x)), (2, .int (iI w)), (3, .int (iI mo)), (4, .int (iI va)), (5, .int (iI le)), (6, .int (iI i))] [.int (iI i), .ref 22] _ _ _ _
      refine pm_i_ald pm_a212_58 (mh_get (j := 4) hA rfl) (by omega) (by omega) ⟨by omega, by omega⟩ ?_
      show pm_E _ _ _ 59 [(0, .ref 18), (1, .int (iI x)), (2, .int (iI w)), (3, .int (iI mo)), (4, .int (iI va)), (5, .int (iI le)), (6, .int (iI i))] [.int (iI ((a 4) (i)))] _ _ _ _
      have := hr i
      refine pm_e_sim pm_a212_59 rfl ?_
      refine pm_e_top (y := iI 1) (by decide +kernel) ?_
      show pm_E _ _ _ 60 [(0, .ref 18), (1, .int (iI x)), (2, .int (iI w)), (3, .int (iI mo)), (4, .int (iI va)), (5, .int (iI le)), (6, .int (iI i))] [.int (iI 1), .int (iI ((a 4) (i)))] _ _ _ _
      refine pm_c_ne (t := 88) pm_a212_60 rfl ⟨by omega, by omega⟩ ⟨by omega, by omega⟩ (fun h_8 => ?_) (fun h_8 => ?_)
      · skip
        show pm_E _ _ _ 88 [(0, .ref 18), (1, .int (iI x)), (2, .int (iI w)), (3, .int (iI mo)), (4, .int (iI va)), (5, .int (iI le)), (6, .int (iI i))] [] _ _ _ _
        refine pm_e_sim pm_a212_88 rfl ?_
        show pm_E _ _ _ 89 [(0, .ref 18), (1, .int (iI x)), (2, .int (iI w)), (3, .int (iI mo)), (4, .int (iI va)), (5, .int (iI le)), (6, .int (iI i))] [.int (iI mo)] _ _ _ _
        refine pm_e_sim pm_a212_89 rfl ?_
        show pm_E _ _ _ 90 [(0, .ref 18), (1, .int (iI x)), (2, .int (iI w)), (3, .int (iI mo)), (4, .int (iI va)), (5, .int (iI le)), (6, .int (iI i))] [] _ _ _ _
        refine pm_e_sim pm_a212_90 rfl ?_
        show pm_E _ _ _ 92 [(0, .ref 18), (1, .int (iI x)), (2, .int (iI w)), (3, .int (iI mo)), (4, .int (iI va)), (5, .int (iI le)), (6, .int (iI i))] [.int (iI va)] _ _ _ _
        refine pm_e_sim pm_a212_92 rfl ?_
        show pm_E _ _ _ 93 [(0, .ref 18), (1, .int (iI x)), (2, .int (iI w)), (3, .int (iI mo)), (4, .int (iI va)), (5, .int (iI le)), (6, .int (iI i))] [.ref 18, .int (iI va)] _ _ _ _
        refine pm_i_get pm_a212_93 rfl (mh_get (j := 0) hA rfl) rfl ?_
        show pm_E _ _ _ 96 [(0, .ref 18), (1, .int (iI x)), (2, .int (iI w)), (3, .int (iI mo)), (4, .int (iI va)), (5, .int (iI le)), (6, .int (iI i))] [.ref 22, .int (iI va)] _ _ _ _
        refine pm_e_sim pm_a212_96 rfl ?_
        show pm_E _ _ _ 98 [(0, .ref 18), (1, .int (iI x)), (2, .int (iI w)), (3, .int (iI mo)), (4, .int (iI va)), (5, .int (iI le)), (6, .int (iI i))] [.int (iI i), .ref 22, .int (iI va)] _ _ _ _
        refine pm_i_ald pm_a212_98 (mh_get (j := 4) hA rfl) (by omega) (by omega) ⟨by omega, by omega⟩ ?_
        show pm_E _ _ _ 99 [(0, .ref 18), (1, .int (iI x)), (2, .int (iI w)), (3, .int (iI mo)), (4, .int (iI va)), (5, .int (iI le)), (6, .int (iI i))] [.int (iI ((a 4) (i))), .int (iI va)] _ _ _ _
        have := hr i
        refine pm_e_sim pm_a212_99 rfl ?_
        refine pm_e_top (y := iI 9) (by decide +kernel) ?_
        show pm_E _ _ _ 101 [(0, .ref 18), (1, .int (iI x)), (2, .int (iI w)), (3, .int (iI mo)), (4, .int (iI va)), (5, .int (iI le)), (6, .int (iI i))] [.int (iI 9), .int (iI ((a 4) (i))), .int (iI va)] _ _ _ _
        refine pm_c_le (t := 108) pm_a212_101 rfl ⟨by omega, by omega⟩ ⟨by omega, by omega⟩ (fun h_9 => ?_) (fun h_9 => ?_)
        · skip
          show pm_E _ _ _ 108 [(0, .ref 18), (1, .int (iI x)), (2, .int (iI w)), (3, .int (iI mo)), (4, .int (iI va)), (5, .int (iI le)), (6, .int (iI i))] [.int (iI va)] _ _ _ _
          refine pm_e_sim pm_a212_108 rfl ?_
          refine pm_e_top (y := iI 0) (by decide +kernel) ?_
          show pm_E _ _ _ 109 [(0, .ref 18), (1, .int (iI x)), (2, .int (iI w)), (3, .int (iI mo)), (4, .int (iI va)), (5, .int (iI le)), (6, .int (iI i))] [.int (iI 0), .int (iI va)] _ _ _ _
          refine pm_e_sim pm_a212_109 rfl ?_
          refine pm_e_top (y := iI (va + 0)) (iI_add _ _) ?_
          show pm_E _ _ _ 110 [(0, .ref 18), (1, .int (iI x)), (2, .int (iI w)), (3, .int (iI mo)), (4, .int (iI va)), (5, .int (iI le)), (6, .int (iI i))] [.int (iI (va + 0))] _ _ _ _
          refine pm_e_sim pm_a212_110 rfl ?_
          show pm_E _ _ _ 112 [(0, .ref 18), (1, .int (iI x)), (2, .int (iI w)), (3, .int (iI mo)), (4, .int (iI (va + 0))), (5, .int (iI le)), (6, .int (iI i))] [] _ _ _ _
          refine pm_e_sim pm_a212_112 rfl ?_
          show pm_E _ _ _ 114 [(0, .ref 18), (1, .int (iI x)), (2, .int (iI w)), (3, .int (iI mo)), (4, .int (iI (va + 0))), (5, .int (iI le)), (6, .int (iI i))] [.int (iI le)] _ _ _ _
          refine pm_e_sim pm_a212_114 rfl ?_
          show pm_E _ _ _ 115 [(0, .ref 18), (1, .int (iI x)), (2, .int (iI w)), (3, .int (iI mo)), (4, .int (iI (va + 0))), (5, .int (iI le)), (6, .int (iI i))] [.ref 18, .int (iI le)] _ _ _ _
          refine pm_i_get pm_a212_115 rfl (mh_get (j := 0) hA rfl) rfl ?_
          show pm_E _ _ _ 118 [(0, .ref 18), (1, .int (iI x)), (2, .int (iI w)), (3, .int (iI mo)), (4, .int (iI (va + 0))), (5, .int (iI le)), (6, .int (iI i))] [.ref 22, .int (iI le)] _ _ _ _
          refine pm_e_sim pm_a212_118 rfl ?_
          show pm_E _ _ _ 120 [(0, .ref 18), (1, .int (iI x)), (2, .int (iI w)), (3, .int (iI mo)), (4, .int (iI (va + 0))), (5, .int (iI le)), (6, .int (iI i))] [.int (iI i), .ref 22, .int (iI le)] _ _ _ _
          refine pm_i_ald pm_a212_120 (mh_get (j := 4) hA rfl) (by omega) (by omega) ⟨by omega, by omega⟩ ?_
          show pm_E _ _ _ 121 [(0, .ref 18), (1, .int (iI x)), (2, .int (iI w)), (3, .int (iI mo)), (4, .int (iI (va + 0))), (5, .int (iI le)), (6, .int (iI i))] [.int (iI ((a 4) (i))), .int (iI le)] _ _ _ _
          have := hr i
          refine pm_e_sim pm_a212_121 rfl ?_
          refine pm_l_top (y := lI ((a 4) (i))) (iI_l ⟨by omega, by omega⟩) ?_
          show pm_E _ _ _ 122 [(0, .ref 18), (1, .int (iI x)), (2, .int (iI w)), (3, .int (iI mo)), (4, .int (iI (va + 0))), (5, .int (iI le)), (6, .int (iI i))] [.long (lI ((a 4) (i))), .int (iI le)] _ _ _ _
          refine pm_e_rd pm_a212_122 rfl rfl rfl ?_
          refine pm_l_top (y := lI 2) (by decide +kernel) ?_
          show pm_E _ _ _ 125 [(0, .ref 18), (1, .int (iI x)), (2, .int (iI w)), (3, .int (iI mo)), (4, .int (iI (va + 0))), (5, .int (iI le)), (6, .int (iI i))] [.long (lI 2), .long (lI ((a 4) (i))), .int (iI le)] _ _ _ _
          refine pm_e_rd pm_a212_125 rfl rfl rfl ?_
          refine pm_l_top (y := lI 6) (by decide +kernel) ?_
          show pm_E _ _ _ 128 [(0, .ref 18), (1, .int (iI x)), (2, .int (iI w)), (3, .int (iI mo)), (4, .int (iI (va + 0))), (5, .int (iI le)), (6, .int (iI i))] [.long (lI 6), .long (lI 2), .long (lI ((a 4) (i))), .int (iI le)] _ _ _ _
          refine pm_e_call (T2 := pm_mm147) pm_a212_128 rfl rfl rfl rfl rfl rfl rfl rfl rfl ?_
          show pm_E none _ _ 0 [(0, .long (lI ((a 4) (i)))), (2, .long (lI 2)), (4, .long (lI 6))] [] _ _ _ _
          refine M_in ⟨by omega, by omega⟩ ⟨by omega, by omega⟩ ⟨by omega, by omega⟩ (fun h_10 => ?_) (fun h_10 => ?_)
          · skip
            show pm_E _ _ _ 131 [(0, .ref 18), (1, .int (iI x)), (2, .int (iI w)), (3, .int (iI mo)), (4, .int (iI (va + 0))), (5, .int (iI le)), (6, .int (iI i))] [.int (iI 1), .int (iI le)] _ _ _ _
            refine pm_e_iff pm_a212_131 rfl (by decide +kernel) ?_
            show pm_E _ _ _ 134 [(0, .ref 18), (1, .int (iI x)), (2, .int (iI w)), (3, .int (iI mo)), (4, .int (iI (va + 0))), (5, .int (iI le)), (6, .int (iI i))] [.int (iI le)] _ _ _ _
            refine pm_e_sim pm_a212_134 rfl ?_
            refine pm_e_top (y := iI 1) (by decide +kernel) ?_
            show pm_E _ _ _ 135 [(0, .ref 18), (1, .int (iI x)), (2, .int (iI w)), (3, .int (iI mo)), (4, .int (iI (va + 0))), (5, .int (iI le)), (6, .int (iI i))] [.int (iI 1), .int (iI le)] _ _ _ _
            refine pm_e_goto pm_a212_135 rfl ?_
            show pm_E _ _ _ 139 [(0, .ref 18), (1, .int (iI x)), (2, .int (iI w)), (3, .int (iI mo)), (4, .int (iI (va + 0))), (5, .int (iI le)), (6, .int (iI i))] [.int (iI 1), .int (iI le)] _ _ _ _
            refine pm_e_sim pm_a212_139 rfl ?_
            refine pm_e_top (y := iI (le + 1)) (iI_add _ _) ?_
            show pm_E _ _ _ 140 [(0, .ref 18), (1, .int (iI x)), (2, .int (iI w)), (3, .int (iI mo)), (4, .int (iI (va + 0))), (5, .int (iI le)), (6, .int (iI i))] [.int (iI (le + 1))] _ _ _ _
            refine pm_e_sim pm_a212_140 rfl ?_
            show pm_E _ _ _ 142 [(0, .ref 18), (1, .int (iI x)), (2, .int (iI w)), (3, .int (iI mo)), (4, .int (iI (va + 0))), (5, .int (iI (le + 1))), (6, .int (iI i))] [] _ _ _ _
            refine pm_e_inc (y := iI (i + 1)) pm_a212_142 rfl (iI_add _ _) (by decide +kernel) rfl ?_
            show pm_E _ _ _ 145 [(0, .ref 18), (1, .int (iI x)), (2, .int (iI w)), (3, .int (iI mo)), (4, .int (iI (va + 0))), (5, .int (iI (le + 1))), (6, .int (iI (i + 1)))] [] _ _ _ _
            refine pm_e_goto pm_a212_145 rfl ?_
            show pm_E _ _ _ 43 [(0, .ref 18), (1, .int (iI x)), (2, .int (iI w)), (3, .int (iI mo)), (4, .int (iI (va + 0))), (5, .int (iI (le + 1))), (6, .int (iI (i + 1)))] [] _ _ _ _
            exact ih (i + 1) _ _ _ (by omega) (by omega) (by omega) (by omega) (by omega) (by omega)
          · skip
            show pm_E _ _ _ 131 [(0, .ref 18), (1, .int (iI x)), (2, .int (iI w)), (3, .int (iI mo)), (4, .int (iI (va + 0))), (5, .int (iI le)), (6, .int (iI i))] [.int (iI 0), .int (iI le)] _ _ _ _
            refine pm_e_ift pm_a212_131 rfl (by decide +kernel) ?_
            show pm_E _ _ _ 138 [(0, .ref 18), (1, .int (iI x)), (2, .int (iI w)), (3, .int (iI mo)), (4, .int (iI (va + 0))), (5, .int (iI le)), (6, .int (iI i))] [.int (iI le)] _ _ _ _
            refine pm_e_sim pm_a212_138 rfl ?_
            refine pm_e_top (y := iI 0) (by decide +kernel) ?_
            show pm_E _ _ _ 139 [(0, .ref 18), (1, .int (iI x)), (2, .int (iI w)), (3, .int (iI mo)), (4, .int (iI (va + 0))), (5, .int (iI le)), (6, .int (iI i))] [.int (iI 0), .int (iI le)] _ _ _ _
            refine pm_e_sim pm_a212_139 rfl ?_
            refine pm_e_top (y := iI (le + 0)) (iI_add _ _) ?_
            show pm_E _ _ _ 140 [(0, .ref 18), (1, .int (iI x)), (2, .int (iI w)), (3, .int (iI mo)), (4, .int (iI (va + 0))), (5, .int (iI le)), (6, .int (iI i))] [.int (iI (le + 0))] _ _ _ _
            refine pm_e_sim pm_a212_140 rfl ?_
            show pm_E _ _ _ 142 [(0, .ref 18), (1, .int (iI x)), (2, .int (iI w)), (3, .int (iI mo)), (4, .int (iI (va + 0))), (5, .int (iI (le + 0))), (6, .int (iI i))] [] _ _ _ _
            refine pm_e_inc (y := iI (i + 1)) pm_a212_142 rfl (iI_add _ _) (by decide +kernel) rfl ?_
            show pm_E _ _ _ 145 [(0, .ref 18), (1, .int (iI x)), (2, .int (iI w)), (3, .int (iI mo)), (4, .int (iI (va + 0))), (5, .int (iI (le + 0))), (6, .int (iI (i + 1)))] [] _ _ _ _
            refine pm_e_goto pm_a212_145 rfl ?_
            show pm_E _ _ _ 43 [(0, .ref 18), (1, .int (iI x)), (2, .int (iI w)), (3, .int (iI mo)), (4, .int (iI (va + 0))), (5, .int (iI (le + 0))), (6, .int (iI (i + 1)))] [] _ _ _ _
            exact ih (i + 1) _ _ _ (by omega) (by omega) (by omega) (by omega) (by omega) (by omega)
        · skip
          show pm_E _ _ _ 104 [(0, .ref 18), (1, .int (iI x)), (2, .int (iI w)), (3, .int (iI mo)), (4, .int (iI va)), (5, .int (iI le)), (6, .int (iI i))] [.int (iI va)] _ _ _ _
          refine pm_e_sim pm_a212_104 rfl ?_
          refine pm_e_top (y := iI 1) (by decide +kernel) ?_
          show pm_E _ _ _ 105 [(0, .ref 18), (1, .int (iI x)), (2, .int (iI w)), (3, .int (iI mo)), (4, .int (iI va)), (5, .int (iI le)), (6, .int (iI i))] [.int (iI 1), .int (iI va)] _ _ _ _
          refine pm_e_goto pm_a212_105 rfl ?_
          show pm_E _ _ _ 109 [(0, .ref 18), (1, .int (iI x)), (2, .int (iI w)), (3, .int (iI mo)), (4, .int (iI va)), (5, .int (iI le)), (6, .int (iI i))] [.int (iI 1), .int (iI va)] _ _ _ _
          refine pm_e_sim pm_a212_109 rfl ?_
          refine pm_e_top (y := iI (va + 1)) (iI_add _ _) ?_
          show pm_E _ _ _ 110 [(0, .ref 18), (1, .int (iI x)), (2, .int (iI w)), (3, .int (iI mo)), (4, .int (iI va)), (5, .int (iI le)), (6, .int (iI i))] [.int (iI (va + 1))] _ _ _ _
          refine pm_e_sim pm_a212_110 rfl ?_
          show pm_E _ _ _ 112 [(0, .ref 18), (1, .int (iI x)), (2, .int (iI w)), (3, .int (iI mo)), (4, .int (iI (va + 1))), (5, .int (iI le)), (6, .int (iI i))] [] _ _ _ _
          refine pm_e_sim pm_a212_112 rfl ?_
          show pm_E _ _ _ 114 [(0, .ref 18), (1, .int (iI x)), (2, .int (iI w)), (3, .int (iI mo)), (4, .int (iI (va + 1))), (5, .int (iI le)), (6, .int (iI i))] [.int (iI le)] _ _ _ _
          refine pm_e_sim pm_a212_114 rfl ?_
          show pm_E _ _ _ 115 [(0, .ref 18), (1, .int (iI x)), (2, .int (iI w)), (3, .int (iI mo)), (4, .int (iI (va + 1))), (5, .int (iI le)), (6, .int (iI i))] [.ref 18, .int (iI le)] _ _ _ _
          refine pm_i_get pm_a212_115 rfl (mh_get (j := 0) hA rfl) rfl ?_
          show pm_E _ _ _ 118 [(0, .ref 18), (1, .int (iI x)), (2, .int (iI w)), (3, .int (iI mo)), (4, .int (iI (va + 1))), (5, .int (iI le)), (6, .int (iI i))] [.ref 22, .int (iI le)] _ _ _ _
          refine pm_e_sim pm_a212_118 rfl ?_
          show pm_E _ _ _ 120 [(0, .ref 18), (1, .int (iI x)), (2, .int (iI w)), (3, .int (iI mo)), (4, .int (iI (va + 1))), (5, .int (iI le)), (6, .int (iI i))] [.int (iI i), .ref 22, .int (iI le)] _ _ _ _
          refine pm_i_ald pm_a212_120 (mh_get (j := 4) hA rfl) (by omega) (by omega) ⟨by omega, by omega⟩ ?_
          show pm_E _ _ _ 121 [(0, .ref 18), (1, .int (iI x)), (2, .int (iI w)), (3, .int (iI mo)), (4, .int (iI (va + 1))), (5, .int (iI le)), (6, .int (iI i))] [.int (iI ((a 4) (i))), .int (iI le)] _ _ _ _
          have := hr i
          refine pm_e_sim pm_a212_121 rfl ?_
          refine pm_l_top (y := lI ((a 4) (i))) (iI_l ⟨by omega, by omega⟩) ?_
          show pm_E _ _ _ 122 [(0, .ref 18), (1, .int (iI x)), (2, .int (iI w)), (3, .int (iI mo)), (4, .int (iI (va + 1))), (5, .int (iI le)), (6, .int (iI i))] [.long (lI ((a 4) (i))), .int (iI le)] _ _ _ _
          refine pm_e_rd pm_a212_122 rfl rfl rfl ?_
          refine pm_l_top (y := lI 2) (by decide +kernel) ?_
          show pm_E _ _ _ 125 [(0, .ref 18), (1, .int (iI x)), (2, .int (iI w)), (3, .int (iI mo)), (4, .int (iI (va + 1))), (5, .int (iI le)), (6, .int (iI i))] [.long (lI 2), .long (lI ((a 4) (i))), .int (iI le)] _ _ _ _
          refine pm_e_rd pm_a212_125 rfl rfl rfl ?_
          refine pm_l_top (y := lI 6) (by decide +kernel) ?_
          show pm_E _ _ _ 128 [(0, .ref 18), (1, .int (iI x)), (2, .int (iI w)), (3, .int (iI mo)), (4, .int (iI (va + 1))), (5, .int (iI le)), (6, .int (iI i))] [.long (lI 6), .long (lI 2), .long (lI ((a 4) (i))), .int (iI le)] _ _ _ _
          refine pm_e_call (T2 := pm_mm147) pm_a212_128 rfl rfl rfl rfl rfl rfl rfl rfl rfl ?_
          show pm_E none _ _ 0 [(0, .long (lI ((a 4) (i)))), (2, .long (lI 2)), (4, .long (lI 6))] [] _ _ _ _
          refine M_in ⟨by omega, by omega⟩ ⟨by omega, by omega⟩ ⟨by omega, by omega⟩ (fun h_11 => ?_) (fun h_11 => ?_)
          · skip
            show pm_E _ _ _ 131 [(0, .ref 18), (1, .int (iI x)), (2, .int (iI w)), (3, .int (iI mo)), (4, .int (iI (va + 1))), (5, .int (iI le)), (6, .int (iI i))] [.int (iI 1), .int (iI le)] _ _ _ _
            refine pm_e_iff pm_a212_131 rfl (by decide +kernel) ?_
            show pm_E _ _ _ 134 [(0, .ref 18), (1, .int (iI x)), (2, .int (iI w)), (3, .int (iI mo)), (4, .int (iI (va + 1))), (5, .int (iI le)), (6, .int (iI i))] [.int (iI le)] _ _ _ _
            refine pm_e_sim pm_a212_134 rfl ?_
            refine pm_e_top (y := iI 1) (by decide +kernel) ?_
            show pm_E _ _ _ 135 [(0, .ref 18), (1, .int (iI x)), (2, .int (iI w)), (3, .int (iI mo)), (4, .int (iI (va + 1))), (5, .int (iI le)), (6, .int (iI i))] [.int (iI 1), .int (iI le)] _ _ _ _
            refine pm_e_goto pm_a212_135 rfl ?_
            show pm_E _ _ _ 139 [(0, .ref 18), (1, .int (iI x)), (2, .int (iI w)), (3, .int (iI mo)), (4, .int (iI (va + 1))), (5, .int (iI le)), (6, .int (iI i))] [.int (iI 1), .int (iI le)] _ _ _ _
            refine pm_e_sim pm_a212_139 rfl ?_
            refine pm_e_top (y := iI (le + 1)) (iI_add _ _) ?_
            show pm_E _ _ _ 140 [(0, .ref 18), (1, .int (iI x)), (2, .int (iI w)), (3, .int (iI mo)), (4, .int (iI (va + 1))), (5, .int (iI le)), (6, .int (iI i))] [.int (iI (le + 1))] _ _ _ _
            refine pm_e_sim pm_a212_140 rfl ?_
            show pm_E _ _ _ 142 [(0, .ref 18), (1, .int (iI x)), (2, .int (iI w)), (3, .int (iI mo)), (4, .int (iI (va + 1))), (5, .int (iI (le + 1))), (6, .int (iI i))] [] _ _ _ _
            refine pm_e_inc (y := iI (i + 1)) pm_a212_142 rfl (iI_add _ _) (by decide +kernel) rfl ?_
            show pm_E _ _ _ 145 [(0, .ref 18), (1, .int (iI x)), (2, .int (iI w)), (3, .int (iI mo)), (4, .int (iI (va + 1))), (5, .int (iI (le + 1))), (6, .int (iI (i + 1)))] [] _ _ _ _
            refine pm_e_goto pm_a212_145 rfl ?_
            show pm_E _ _ _ 43 [(0, .ref 18), (1, .int (iI x)), (2, .int (iI w)), (3, .int (iI mo)), (4, .int (iI (va + 1))), (5, .int (iI (le + 1))), (6, .int (iI (i + 1)))] [] _ _ _ _
            exact ih (i + 1) _ _ _ (by omega) (by omega) (by omega) (by omega) (by omega) (by omega)
          · skip
            show pm_E _ _ _ 131 [(0, .ref 18), (1, .int (iI x)), (2, .int (iI w)), (3, .int (iI mo)), (4, .int (iI (va + 1))), (5, .int (iI le)), (6, .int (iI i))] [.int (iI 0), .int (iI le)] _ _ _ _
            refine pm_e_ift pm_a212_131 rfl (by decide +kernel) ?_
            show pm_E _ _ _ 138 [(0, .ref 18), (1, .int (iI x)), (2, .int (iI w)), (3, .int (iI mo)), (4, .int (iI (va + 1))), (5, .int (iI le)), (6, .int (iI i))] [.int (iI le)] _ _ _ _
            refine pm_e_sim pm_a212_138 rfl ?_
            refine pm_e_top (y := iI 0) (by decide +kernel) ?_
            show pm_E _ _ _ 139 [(0, .ref 18), (1, .int (iI x)), (2, .int (iI w)), (3, .int (iI mo)), (4, .int (iI (va + 1))), (5, .int (iI le)), (6, .int (iI i))] [.int (iI 0), .int (iI le)] _ _ _ _
            refine pm_e_sim pm_a212_139 rfl ?_
            refine pm_e_top (y := iI (le + 0)) (iI_add _ _) ?_
            show pm_E _ _ _ 140 [(0, .ref 18), (1, .int (iI x)), (2, .int (iI w)), (3, .int (iI mo)), (4, .int (iI (va + 1))), (5, .int (iI le)), (6, .int (iI i))] [.int (iI (le + 0))] _ _ _ _
            refine pm_e_sim pm_a212_140 rfl ?_
            show pm_E _ _ _ 142 [(0, .ref 18), (1, .int (iI x)), (2, .int (iI w)), (3, .int (iI mo)), (4, .int (iI (va + 1))), (5, .int (iI (le + 0))), (6, .int (iI i))] [] _ _ _ _
            refine pm_e_inc (y := iI (i + 1)) pm_a212_142 rfl (iI_add _ _) (by decide +kernel) rfl ?_
            show pm_E _ _ _ 145 [(0, .ref 18), (1, .int (iI x)), (2, .int (iI w)), (3, .int (iI mo)), (4, .int (iI (va + 1))), (5, .int (iI (le + 0))), (6, .int (iI (i + 1)))] [] _ _ _ _
            refine pm_e_goto pm_a212_145 rfl ?_
            show pm_E _ _ _ 43 [(0, .ref 18), (1, .int (iI x)), (2, .int (iI w)), (3, .int (iI mo)), (4, .int (iI (va + 1))), (5, .int (iI (le + 0))), (6, .int (iI (i + 1)))] [] _ _ _ _
            exact ih (i + 1) _ _ _ (by omega) (by omega) (by omega) (by omega) (by omega) (by omega)
      · skip
        show pm_E _ _ _ 63 [(0, .ref 18), (1, .int (iI x)), (2, .int (iI w)), (3, .int (iI mo)), (4, .int (iI va)), (5, .int (iI le)), (6, .int (iI i))] [] _ _ _ _
        refine pm_e_sim pm_a212_63 rfl ?_
        show pm_E _ _ _ 64 [(0, .ref 18), (1, .int (iI x)), (2, .int (iI w)), (3, .int (iI mo)), (4, .int (iI va)), (5, .int (iI le)), (6, .int (iI i))] [.ref 18] _ _ _ _
        refine pm_i_get pm_a212_64 rfl (mh_get (j := 0) hA rfl) rfl ?_
        show pm_E _ _ _ 67 [(0, .ref 18), (1, .int (iI x)), (2, .int (iI w)), (3, .int (iI mo)), (4, .int (iI va)), (5, .int (iI le)), (6, .int (iI i))] [.ref 23] _ _ _ _
        refine pm_e_sim pm_a212_67 rfl ?_
        show pm_E _ _ _ 69 [(0, .ref 18), (1, .int (iI x)), (2, .int (iI w)), (3, .int (iI mo)), (4, .int (iI va)), (5, .int (iI le)), (6, .int (iI i))] [.int (iI i), .ref 23] _ _ _ _
        refine pm_i_ald pm_a212_69 (mh_get (j := 5) hA rfl) (by omega) (by omega) ⟨by omega, by omega⟩ ?_
        show pm_E _ _ _ 70 [(0, .ref 18), (1, .int (iI x)), (2, .int (iI w)), (3, .int (iI mo)), (4, .int (iI va)), (5, .int (iI le)), (6, .int (iI i))] [.int (iI ((a 5) (i)))] _ _ _ _
        have := hd i (by omega) (by omega)
        refine pm_e_sim pm_a212_70 rfl ?_
        refine pm_e_top (y := iI 1) (by decide +kernel) ?_
        show pm_E _ _ _ 71 [(0, .ref 18), (1, .int (iI x)), (2, .int (iI w)), (3, .int (iI mo)), (4, .int (iI va)), (5, .int (iI le)), (6, .int (iI i))] [.int (iI 1), .int (iI ((a 5) (i)))] _ _ _ _
        refine pm_e_sim pm_a212_71 rfl ?_
        refine pm_e_top (y := iI ((a 5) (i) + 1)) (iI_add _ _) ?_
        show pm_E _ _ _ 72 [(0, .ref 18), (1, .int (iI x)), (2, .int (iI w)), (3, .int (iI mo)), (4, .int (iI va)), (5, .int (iI le)), (6, .int (iI i))] [.int (iI ((a 5) (i) + 1))] _ _ _ _
        refine pm_e_sim pm_a212_72 rfl ?_
        show pm_E _ _ _ 73 [(0, .ref 18), (1, .int (iI x)), (2, .int (iI w)), (3, .int (iI mo)), (4, .int (iI va)), (5, .int (iI le)), (6, .int (iI i))] [.int (iI mo), .int (iI ((a 5) (i) + 1))] _ _ _ _
        refine pm_c_le (t := 88) pm_a212_73 rfl ⟨by omega, by omega⟩ ⟨by omega, by omega⟩ (fun h_12 => ?_) (fun h_12 => ?_)
        · skip
          show pm_E _ _ _ 88 [(0, .ref 18), (1, .int (iI x)), (2, .int (iI w)), (3, .int (iI mo)), (4, .int (iI va)), (5, .int (iI le)), (6, .int (iI i))] [] _ _ _ _
          refine pm_e_sim pm_a212_88 rfl ?_
          show pm_E _ _ _ 89 [(0, .ref 18), (1, .int (iI x)), (2, .int (iI w)), (3, .int (iI mo)), (4, .int (iI va)), (5, .int (iI le)), (6, .int (iI i))] [.int (iI mo)] _ _ _ _
          refine pm_e_sim pm_a212_89 rfl ?_
          show pm_E _ _ _ 90 [(0, .ref 18), (1, .int (iI x)), (2, .int (iI w)), (3, .int (iI mo)), (4, .int (iI va)), (5, .int (iI le)), (6, .int (iI i))] [] _ _ _ _
          refine pm_e_sim pm_a212_90 rfl ?_
          show pm_E _ _ _ 92 [(0, .ref 18), (1, .int (iI x)), (2, .int (iI w)), (3, .int (iI mo)), (4, .int (iI va)), (5, .int (iI le)), (6, .int (iI i))] [.int (iI va)] _ _ _ _
          refine pm_e_sim pm_a212_92 rfl ?_
          show pm_E _ _ _ 93 [(0, .ref 18), (1, .int (iI x)), (2, .int (iI w)), (3, .int (iI mo)), (4, .int (iI va)), (5, .int (iI le)), (6, .int (iI i))] [.ref 18, .int (iI va)] _ _ _ _
          refine pm_i_get pm_a212_93 rfl (mh_get (j := 0) hA rfl) rfl ?_
          show pm_E _ _ _ 96 [(0, .ref 18), (1, .int (iI x)), (2, .int (iI w)), (3, .int (iI mo)), (4, .int (iI va)), (5, .int (iI le)), (6, .int (iI i))] [.ref 22, .int (iI va)] _ _ _ _
          refine pm_e_sim pm_a212_96 rfl ?_
          show pm_E _ _ _ 98 [(0, .ref 18), (1, .int (iI x)), (2, .int (iI w)), (3, .int (iI mo)), (4, .int (iI va)), (5, .int (iI le)), (6, .int (iI i))] [.int (iI i), .ref 22, .int (iI va)] _ _ _ _
          refine pm_i_ald pm_a212_98 (mh_get (j := 4) hA rfl) (by omega) (by omega) ⟨by omega, by omega⟩ ?_
          show pm_E _ _ _ 99 [(0, .ref 18), (1, .int (iI x)), (2, .int (iI w)), (3, .int (iI mo)), (4, .int (iI va)), (5, .int (iI le)), (6, .int (iI i))] [.int (iI ((a 4) (i))), .int (iI va)] _ _ _ _
          have := hr i
          refine pm_e_sim pm_a212_99 rfl ?_
          refine pm_e_top (y := iI 9) (by decide +kernel) ?_
          show pm_E _ _ _ 101 [(0, .ref 18), (1, .int (iI x)), (2, .int (iI w)), (3, .int (iI mo)), (4, .int (iI va)), (5, .int (iI le)), (6, .int (iI i))] [.int (iI 9), .int (iI ((a 4) (i))), .int (iI va)] _ _ _ _
          refine pm_c_le (t := 108) pm_a212_101 rfl ⟨by omega, by omega⟩ ⟨by omega, by omega⟩ (fun h_13 => ?_) (fun h_13 => ?_)
          · skip
            show pm_E _ _ _ 108 [(0, .ref 18), (1, .int (iI x)), (2, .int (iI w)), (3, .int (iI mo)), (4, .int (iI va)), (5, .int (iI le)), (6, .int (iI i))] [.int (iI va)] _ _ _ _
            refine pm_e_sim pm_a212_108 rfl ?_
            refine pm_e_top (y := iI 0) (by decide +kernel) ?_
            show pm_E _ _ _ 109 [(0, .ref 18), (1, .int (iI x)), (2, .int (iI w)), (3, .int (iI mo)), (4, .int (iI va)), (5, .int (iI le)), (6, .int (iI i))] [.int (iI 0), .int (iI va)] _ _ _ _
            refine pm_e_sim pm_a212_109 rfl ?_
            refine pm_e_top (y := iI (va + 0)) (iI_add _ _) ?_
            show pm_E _ _ _ 110 [(0, .ref 18), (1, .int (iI x)), (2, .int (iI w)), (3, .int (iI mo)), (4, .int (iI va)), (5, .int (iI le)), (6, .int (iI i))] [.int (iI (va + 0))] _ _ _ _
            refine pm_e_sim pm_a212_110 rfl ?_
            show pm_E _ _ _ 112 [(0, .ref 18), (1, .int (iI x)), (2, .int (iI w)), (3, .int (iI mo)), (4, .int (iI (va + 0))), (5, .int (iI le)), (6, .int (iI i))] [] _ _ _ _
            refine pm_e_sim pm_a212_112 rfl ?_
            show pm_E _ _ _ 114 [(0, .ref 18), (1, .int (iI x)), (2, .int (iI w)), (3, .int (iI mo)), (4, .int (iI (va + 0))), (5, .int (iI le)), (6, .int (iI i))] [.int (iI le)] _ _ _ _
            refine pm_e_sim pm_a212_114 rfl ?_
            show pm_E _ _ _ 115 [(0, .ref 18), (1, .int (iI x)), (2, .int (iI w)), (3, .int (iI mo)), (4, .int (iI (va + 0))), (5, .int (iI le)), (6, .int (iI i))] [.ref 18, .int (iI le)] _ _ _ _
            refine pm_i_get pm_a212_115 rfl (mh_get (j := 0) hA rfl) rfl ?_
            show pm_E _ _ _ 118 [(0, .ref 18), (1, .int (iI x)), (2, .int (iI w)), (3, .int (iI mo)), (4, .int (iI (va + 0))), (5, .int (iI le)), (6, .int (iI i))] [.ref 22, .int (iI le)] _ _ _ _
            refine pm_e_sim pm_a212_118 rfl ?_
            show pm_E _ _ _ 120 [(0, .ref 18), (1, .int (iI x)), (2, .int (iI w)), (3, .int (iI mo)), (4, .int (iI (va + 0))), (5, .int (iI le)), (6, .int (iI i))] [.int (iI i), .ref 22, .int (iI le)] _ _ _ _
            refine pm_i_ald pm_a212_120 (mh_get (j := 4) hA rfl) (by omega) (by omega) ⟨by omega, by omega⟩ ?_
            show pm_E _ _ _ 121 [(0, .ref 18), (1, .int (iI x)), (2, .int (iI w)), (3, .int (iI mo)), (4, .int (iI (va + 0))), (5, .int (iI le)), (6, .int (iI i))] [.int (iI ((a 4) (i))), .int (iI le)] _ _ _ _
            have := hr i
            refine pm_e_sim pm_a212_121 rfl ?_
            refine pm_l_top (y := lI ((a 4) (i))) (iI_l ⟨by omega, by omega⟩) ?_
            show pm_E _ _ _ 122 [(0, .ref 18), (1, .int (iI x)), (2, .int (iI w)), (3, .int (iI mo)), (4, .int (iI (va + 0))), (5, .int (iI le)), (6, .int (iI i))] [.long (lI ((a 4) (i))), .int (iI le)] _ _ _ _
            refine pm_e_rd pm_a212_122 rfl rfl rfl ?_
            refine pm_l_top (y := lI 2) (by decide +kernel) ?_
            show pm_E _ _ _ 125 [(0, .ref 18), (1, .int (iI x)), (2, .int (iI w)), (3, .int (iI mo)), (4, .int (iI (va + 0))), (5, .int (iI le)), (6, .int (iI i))] [.long (lI 2), .long (lI ((a 4) (i))), .int (iI le)] _ _ _ _
            refine pm_e_rd pm_a212_125 rfl rfl rfl ?_
            refine pm_l_top (y := lI 6) (by decide +kernel) ?_
            show pm_E _ _ _ 128 [(0, .ref 18), (1, .int (iI x)), (2, .int (iI w)), (3, .int (iI mo)), (4, .int (iI (va + 0))), (5, .int (iI le)), (6, .int (iI i))] [.long (lI 6), .long (lI 2), .long (lI ((a 4) (i))), .int (iI le)] _ _ _ _
            refine pm_e_call (T2 := pm_mm147) pm_a212_128 rfl rfl rfl rfl rfl rfl rfl rfl rfl ?_
            show pm_E none _ _ 0 [(0, .long (lI ((a 4) (i)))), (2, .long (lI 2)), (4, .long (lI 6))] [] _ _ _ _
            refine M_in ⟨by omega, by omega⟩ ⟨by omega, by omega⟩ ⟨by omega, by omega⟩ (fun h_14 => ?_) (fun h_14 => ?_)
            · skip
              show pm_E _ _ _ 131 [(0, .ref 18), (1, .int (iI x)), (2, .int (iI w)), (3, .int (iI mo)), (4, .int (iI (va + 0))), (5, .int (iI le)), (6, .int (iI i))] [.int (iI 1), .int (iI le)] _ _ _ _
              refine pm_e_iff pm_a212_131 rfl (by decide +kernel) ?_
              show pm_E _ _ _ 134 [(0, .ref 18), (1, .int (iI x)), (2, .int (iI w)), (3, .int (iI mo)), (4, .int (iI (va + 0))), (5, .int (iI le)), (6, .int (iI i))] [.int (iI le)] _ _ _ _
              refine pm_e_sim pm_a212_134 rfl ?_
              refine pm_e_top (y := iI 1) (by decide +kernel) ?_
              show pm_E _ _ _ 135 [(0, .ref 18), (1, .int (iI x)), (2, .int (iI w)), (3, .int (iI mo)), (4, .int (iI (va + 0))), (5, .int (iI le)), (6, .int (iI i))] [.int (iI 1), .int (iI le)] _ _ _ _
              refine pm_e_goto pm_a212_135 rfl ?_
              show pm_E _ _ _ 139 [(0, .ref 18), (1, .int (iI x)), (2, .int (iI w)), (3, .int (iI mo)), (4, .int (iI (va + 0))), (5, .int (iI le)), (6, .int (iI i))] [.int (iI 1), .int (iI le)] _ _ _ _
              refine pm_e_sim pm_a212_139 rfl ?_
              refine pm_e_top (y := iI (le + 1)) (iI_add _ _) ?_
              show pm_E _ _ _ 140 [(0, .ref 18), (1, .int (iI x)), (2, .int (iI w)), (3, .int (iI mo)), (4, .int (iI (va + 0))), (5, .int (iI le)), (6, .int (iI i))] [.int (iI (le + 1))] _ _ _ _
              refine pm_e_sim pm_a212_140 rfl ?_
              show pm_E _ _ _ 142 [(0, .ref 18), (1, .int (iI x)), (2, .int (iI w)), (3, .int (iI mo)), (4, .int (iI (va + 0))), (5, .int (iI (le + 1))), (6, .int (iI i))] [] _ _ _ _
              refine pm_e_inc (y := iI (i + 1)) pm_a212_142 rfl (iI_add _ _) (by decide +kernel) rfl ?_
              show pm_E _ _ _ 145 [(0, .ref 18), (1, .int (iI x)), (2, .int (iI w)), (3, .int (iI mo)), (4, .int (iI (va + 0))), (5, .int (iI (le + 1))), (6, .int (iI (i + 1)))] [] _ _ _ _
              refine pm_e_goto pm_a212_145 rfl ?_
              show pm_E _ _ _ 43 [(0, .ref 18), (1, .int (iI x)), (2, .int (iI w)), (3, .int (iI mo)), (4, .int (iI (va + 0))), (5, .int (iI (le + 1))), (6, .int (iI (i + 1)))] [] _ _ _ _
              exact ih (i + 1) _ _ _ (by omega) (by omega) (by omega) (by omega) (by omega) (by omega)
            · skip
              show pm_E _ _ _ 131 [(0, .ref 18), (1, .int (iI x)), (2, .int (iI w)), (3, .int (iI mo)), (4, .int (iI (va + 0))), (5, .int (iI le)), (6, .int (iI i))] [.int (iI 0), .int (iI le)] _ _ _ _
              refine pm_e_ift pm_a212_131 rfl (by decide +kernel) ?_
              show pm_E _ _ _ 138 [(0, .ref 18), (1, .int (iI x)), (2, .int (iI w)), (3, .int (iI mo)), (4, .int (iI (va + 0))), (5, .int (iI le)), (6, .int (iI i))] [.int (iI le)] _ _ _ _
              refine pm_e_sim pm_a212_138 rfl ?_
              refine pm_e_top (y := iI 0) (by decide +kernel) ?_
              show pm_E _ _ _ 139 [(0, .ref 18), (1, .int (iI x)), (2, .int (iI w)), (3, .int (iI mo)), (4, .int (iI (va + 0))), (5, .int (iI le)), (6, .int (iI i))] [.int (iI 0), .int (iI le)] _ _ _ _
              refine pm_e_sim pm_a212_139 rfl ?_
              refine pm_e_top (y := iI (le + 0)) (iI_add _ _) ?_
              show pm_E _ _ _ 140 [(0, .ref 18), (1, .int (iI x)), (2, .int (iI w)), (3, .int (iI mo)), (4, .int (iI (va + 0))), (5, .int (iI le)), (6, .int (iI i))] [.int (iI (le + 0))] _ _ _ _
              refine pm_e_sim pm_a212_140 rfl ?_
              show pm_E _ _ _ 142 [(0, .ref 18), (1, .int (iI x)), (2, .int (iI w)), (3, .int (iI mo)), (4, .int (iI (va + 0))), (5, .int (iI (le + 0))), (6, .int (iI i))] [] _ _ _ _
              refine pm_e_inc (y := iI (i + 1)) pm_a212_142 rfl (iI_add _ _) (by decide +kernel) rfl ?_
              show pm_E _ _ _ 145 [(0, .ref 18), (1, .int (iI x)), (2, .int (iI w)), (3, .int (iI mo)), (4, .int (iI (va + 0))), (5, .int (iI (le + 0))), (6, .int (iI (i + 1)))] [] _ _ _ _
              refine pm_e_goto pm_a212_145 rfl ?_
              show pm_E _ _ _ 43 [(0, .ref 18), (1, .int (iI x)), (2, .int (iI w)), (3, .int (iI mo)), (4, .int (iI (va + 0))), (5, .int (iI (le + 0))), (6, .int (iI (i + 1)))] [] _ _ _ _
              exact ih (i + 1) _ _ _ (by omega) (by omega) (by omega) (by omega) (by omega) (by omega)
          · skip
            show pm_E _ _ _ 104 [(0, .ref 18), (1, .int (iI x)), (2, .int (iI w)), (3, .int (iI mo)), (4, .int (iI va)), (5, .int (iI le)), (6, .int (iI i))] [.int (iI va)] _ _ _ _
            refine pm_e_sim pm_a212_104 rfl ?_
            refine pm_e_top (y := iI 1) (by decide +kernel) ?_
            show pm_E _ _ _ 105 [(0, .ref 18), (1, .int (iI x)), (2, .int (iI w)), (3, .int (iI mo)), (4, .int (iI va)), (5, .int (iI le)), (6, .int (iI i))] [.int (iI 1), .int (iI va)] _ _ _ _
            refine pm_e_goto pm_a212_105 rfl ?_
            show pm_E _ _ _ 109 [(0, .ref 18), (1, .int (iI x)), (2, .int (iI w)), (3, .int (iI mo)), (4, .int (iI va)), (5, .int (iI le)), (6, .int (iI i))] [.int (iI 1), .int (iI va)] _ _ _ _
            refine pm_e_sim pm_a212_109 rfl ?_
            refine pm_e_top (y := iI (va + 1)) (iI_add _ _) ?_
            show pm_E _ _ _ 110 [(0, .ref 18), (1, .int (iI x)), (2, .int (iI w)), (3, .int (iI mo)), (4, .int (iI va)), (5, .int (iI le)), (6, .int (iI i))] [.int (iI (va + 1))] _ _ _ _
            refine pm_e_sim pm_a212_110 rfl ?_
            show pm_E _ _ _ 112 [(0, .ref 18), (1, .int (iI x)), (2, .int (iI w)), (3, .int (iI mo)), (4, .int (iI (va + 1))), (5, .int (iI le)), (6, .int (iI i))] [] _ _ _ _
            refine pm_e_sim pm_a212_112 rfl ?_
            show pm_E _ _ _ 114 [(0, .ref 18), (1, .int (iI x)), (2, .int (iI w)), (3, .int (iI mo)), (4, .int (iI (va + 1))), (5, .int (iI le)), (6, .int (iI i))] [.int (iI le)] _ _ _ _
            refine pm_e_sim pm_a212_114 rfl ?_
            show pm_E _ _ _ 115 [(0, .ref 18), (1, .int (iI x)), (2, .int (iI w)), (3, .int (iI mo)), (4, .int (iI (va + 1))), (5, .int (iI le)), (6, .int (iI i))] [.ref 18, .int (iI le)] _ _ _ _
            refine pm_i_get pm_a212_115 rfl (mh_get (j := 0) hA rfl) rfl ?_
            show pm_E _ _ _ 118 [(0, .ref 18), (1, .int (iI x)), (2, .int (iI w)), (3, .int (iI mo)), (4, .int (iI (va + 1))), (5, .int (iI le)), (6, .int (iI i))] [.ref 22, .int (iI le)] _ _ _ _
            refine pm_e_sim pm_a212_118 rfl ?_
            show pm_E _ _ _ 120 [(0, .ref 18), (1, .int (iI x)), (2, .int (iI w)), (3, .int (iI mo)), (4, .int (iI (va + 1))), (5, .int (iI le)), (6, .int (iI i))] [.int (iI i), .ref 22, .int (iI le)] _ _ _ _
            refine pm_i_ald pm_a212_120 (mh_get (j := 4) hA rfl) (by omega) (by omega) ⟨by omega, by omega⟩ ?_
            show pm_E _ _ _ 121 [(0, .ref 18), (1, .int (iI x)), (2, .int (iI w)), (3, .int (iI mo)), (4, .int (iI (va + 1))), (5, .int (iI le)), (6, .int (iI i))] [.int (iI ((a 4) (i))), .int (iI le)] _ _ _ _
            have := hr i
            refine pm_e_sim pm_a212_121 rfl ?_
            refine pm_l_top (y := lI ((a 4) (i))) (iI_l ⟨by omega, by omega⟩) ?_
            show pm_E _ _ _ 122 [(0, .ref 18), (1, .int (iI x)), (2, .int (iI w)), (3, .int (iI mo)), (4, .int (iI (va + 1))), (5, .int (iI le)), (6, .int (iI i))] [.long (lI ((a 4) (i))), .int (iI le)] _ _ _ _
            refine pm_e_rd pm_a212_122 rfl rfl rfl ?_
            refine pm_l_top (y := lI 2) (by decide +kernel) ?_
            show pm_E _ _ _ 125 [(0, .ref 18), (1, .int (iI x)), (2, .int (iI w)), (3, .int (iI mo)), (4, .int (iI (va + 1))), (5, .int (iI le)), (6, .int (iI i))] [.long (lI 2), .long (lI ((a 4) (i))), .int (iI le)] _ _ _ _
            refine pm_e_rd pm_a212_125 rfl rfl rfl ?_
            refine pm_l_top (y := lI 6) (by decide +kernel) ?_
            show pm_E _ _ _ 128 [(0, .ref 18), (1, .int (iI x)), (2, .int (iI w)), (3, .int (iI mo)), (4, .int (iI (va + 1))), (5, .int (iI le)), (6, .int (iI i))] [.long (lI 6), .long (lI 2), .long (lI ((a 4) (i))), .int (iI le)] _ _ _ _
            refine pm_e_call (T2 := pm_mm147) pm_a212_128 rfl rfl rfl rfl rfl rfl rfl rfl rfl ?_
            show pm_E none _ _ 0 [(0, .long (lI ((a 4) (i)))), (2, .long (lI 2)), (4, .long (lI 6))] [] _ _ _ _
            refine M_in ⟨by omega, by omega⟩ ⟨by omega, by omega⟩ ⟨by omega, by omega⟩ (fun h_15 => ?_) (fun h_15 => ?_)
            · skip
              show pm_E _ _ _ 131 [(0, .ref 18), (1, .int (iI x)), (2, .int (iI w)), (3, .int (iI mo)), (4, .int (iI (va + 1))), (5, .int (iI le)), (6, .int (iI i))] [.int (iI 1), .int (iI le)] _ _ _ _
              refine pm_e_iff pm_a212_131 rfl (by decide +kernel) ?_
              show pm_E _ _ _ 134 [(0, .ref 18), (1, .int (iI x)), (2, .int (iI w)), (3, .int (iI mo)), (4, .int (iI (va + 1))), (5, .int (iI le)), (6, .int (iI i))] [.int (iI le)] _ _ _ _
              refine pm_e_sim pm_a212_134 rfl ?_
              refine pm_e_top (y := iI 1) (by decide +kernel) ?_
              show pm_E _ _ _ 135 [(0, .ref 18), (1, .int (iI x)), (2, .int (iI w)), (3, .int (iI mo)), (4, .int (iI (va + 1))), (5, .int (iI le)), (6, .int (iI i))] [.int (iI 1), .int (iI le)] _ _ _ _
              refine pm_e_goto pm_a212_135 rfl ?_
              show pm_E _ _ _ 139 [(0, .ref 18), (1, .int (iI x)), (2, .int (iI w)), (3, .int (iI mo)), (4, .int (iI (va + 1))), (5, .int (iI le)), (6, .int (iI i))] [.int (iI 1), .int (iI le)] _ _ _ _
              refine pm_e_sim pm_a212_139 rfl ?_
              refine pm_e_top (y := iI (le + 1)) (iI_add _ _) ?_
              show pm_E _ _ _ 140 [(0, .ref 18), (1, .int (iI x)), (2, .int (iI w)), (3, .int (iI mo)), (4, .int (iI (va + 1))), (5, .int (iI le)), (6, .int (iI i))] [.int (iI (le + 1))] _ _ _ _
              refine pm_e_sim pm_a212_140 rfl ?_
              show pm_E _ _ _ 142 [(0, .ref 18), (1, .int (iI x)), (2, .int (iI w)), (3, .int (iI mo)), (4, .int (iI (va + 1))), (5, .int (iI (le + 1))), (6, .int (iI i))] [] _ _ _ _
              refine pm_e_inc (y := iI (i + 1)) pm_a212_142 rfl (iI_add _ _) (by decide +kernel) rfl ?_
              show pm_E _ _ _ 145 [(0, .ref 18), (1, .int (iI x)), (2, .int (iI w)), (3, .int (iI mo)), (4, .int (iI (va + 1))), (5, .int (iI (le + 1))), (6, .int (iI (i + 1)))] [] _ _ _ _
              refine pm_e_goto pm_a212_145 rfl ?_
              show pm_E _ _ _ 43 [(0, .ref 18), (1, .int (iI x)), (2, .int (iI w)), (3, .int (iI mo)), (4, .int (iI (va + 1))), (5, .int (iI (le + 1))), (6, .int (iI (i + 1)))] [] _ _ _ _
              exact ih (i + 1) _ _ _ (by omega) (by omega) (by omega) (by omega) (by omega) (by omega)
            · skip
              show pm_E _ _ _ 131 [(0, .ref 18), (1, .int (iI x)), (2, .int (iI w)), (3, .int (iI mo)), (4, .int (iI (va + 1))), (5, .int (iI le)), (6, .int (iI i))] [.int (iI 0), .int (iI le)] _ _ _ _
              refine pm_e_ift pm_a212_131 rfl (by decide +kernel) ?_
              show pm_E _ _ _ 138 [(0, .ref 18), (1, .int (iI x)), (2, .int (iI w)), (3, .int (iI mo)), (4, .int (iI (va + 1))), (5, .int (iI le)), (6, .int (iI i))] [.int (iI le)] _ _ _ _
              refine pm_e_sim pm_a212_138 rfl ?_
              refine pm_e_top (y := iI 0) (by decide +kernel) ?_
              show pm_E _ _ _ 139 [(0, .ref 18), (1, .int (iI x)), (2, .int (iI w)), (3, .int (iI mo)), (4, .int (iI (va + 1))), (5, .int (iI le)), (6, .int (iI i))] [.int (iI 0), .int (iI le)] _ _ _ _
              refine pm_e_sim pm_a212_139 rfl ?_
              refine pm_e_top (y := iI (le + 0)) (iI_add _ _) ?_
              show pm_E _ _ _ 140 [(0, .ref 18), (1, .int (iI x)), (2, .int (iI w)), (3, .int (iI mo)), (4, .int (iI (va + 1))), (5, .int (iI le)), (6, .int (iI i))] [.int (iI (le + 0))] _ _ _ _
              refine pm_e_sim pm_a212_140 rfl ?_
              show pm_E _ _ _ 142 [(0, .ref 18), (1, .int (iI x)), (2, .int (iI w)), (3, .int (iI mo)), (4, .int (iI (va + 1))), (5, .int (iI (le + 0))), (6, .int (iI i))] [] _ _ _ _
              refine pm_e_inc (y := iI (i + 1)) pm_a212_142 rfl (iI_add _ _) (by decide +kernel) rfl ?_
              show pm_E _ _ _ 145 [(0, .ref 18), (1, .int (iI x)), (2, .int (iI w)), (3, .int (iI mo)), (4, .int (iI (va + 1))), (5, .int (iI (le + 0))), (6, .int (iI (i + 1)))] [] _ _ _ _
              refine pm_e_goto pm_a212_145 rfl ?_
              show pm_E _ _ _ 43 [(0, .ref 18), (1, .int (iI x)), (2, .int (iI w)), (3, .int (iI mo)), (4, .int (iI (va + 1))), (5, .int (iI (le + 0))), (6, .int (iI (i + 1)))] [] _ _ _ _
              exact ih (i + 1) _ _ _ (by omega) (by omega) (by omega) (by omega) (by omega) (by omega)
        · skip
          show pm_E _ _ _ 76 [(0, .ref 18), (1, .int (iI x)), (2, .int (iI w)), (3, .int (iI mo)), (4, .int (iI va)), (5, .int (iI le)), (6, .int (iI i))] [] _ _ _ _
          refine pm_e_sim pm_a212_76 rfl ?_
          show pm_E _ _ _ 77 [(0, .ref 18), (1, .int (iI x)), (2, .int (iI w)), (3, .int (iI mo)), (4, .int (iI va)), (5, .int (iI le)), (6, .int (iI i))] [.ref 18] _ _ _ _
          refine pm_i_get pm_a212_77 rfl (mh_get (j := 0) hA rfl) rfl ?_
          show pm_E _ _ _ 80 [(0, .ref 18), (1, .int (iI x)), (2, .int (iI w)), (3, .int (iI mo)), (4, .int (iI va)), (5, .int (iI le)), (6, .int (iI i))] [.ref 23] _ _ _ _
          refine pm_e_sim pm_a212_80 rfl ?_
          show pm_E _ _ _ 82 [(0, .ref 18), (1, .int (iI x)), (2, .int (iI w)), (3, .int (iI mo)), (4, .int (iI va)), (5, .int (iI le)), (6, .int (iI i))] [.int (iI i), .ref 23] _ _ _ _
          refine pm_i_ald pm_a212_82 (mh_get (j := 5) hA rfl) (by omega) (by omega) ⟨by omega, by omega⟩ ?_
          show pm_E _ _ _ 83 [(0, .ref 18), (1, .int (iI x)), (2, .int (iI w)), (3, .int (iI mo)), (4, .int (iI va)), (5, .int (iI le)), (6, .int (iI i))] [.int (iI ((a 5) (i)))] _ _ _ _
          have := hd i (by omega) (by omega)
          refine pm_e_sim pm_a212_83 rfl ?_
          refine pm_e_top (y := iI 1) (by decide +kernel) ?_
          show pm_E _ _ _ 84 [(0, .ref 18), (1, .int (iI x)), (2, .int (iI w)), (3, .int (iI mo)), (4, .int (iI va)), (5, .int (iI le)), (6, .int (iI i))] [.int (iI 1), .int (iI ((a 5) (i)))] _ _ _ _
          refine pm_e_sim pm_a212_84 rfl ?_
          refine pm_e_top (y := iI ((a 5) (i) + 1)) (iI_add _ _) ?_
          show pm_E _ _ _ 85 [(0, .ref 18), (1, .int (iI x)), (2, .int (iI w)), (3, .int (iI mo)), (4, .int (iI va)), (5, .int (iI le)), (6, .int (iI i))] [.int (iI ((a 5) (i) + 1))] _ _ _ _
          refine pm_e_goto pm_a212_85 rfl ?_
          show pm_E _ _ _ 89 [(0, .ref 18), (1, .int (iI x)), (2, .int (iI w)), (3, .int (iI mo)), (4, .int (iI va)), (5, .int (iI le)), (6, .int (iI i))] [.int (iI ((a 5) (i) + 1))] _ _ _ _
          refine pm_e_sim pm_a212_89 rfl ?_
          show pm_E _ _ _ 90 [(0, .ref 18), (1, .int (iI x)), (2, .int (iI w)), (3, .int (iI ((a 5) (i) + 1))), (4, .int (iI va)), (5, .int (iI le)), (6, .int (iI i))] [] _ _ _ _
          refine pm_e_sim pm_a212_90 rfl ?_
          show pm_E _ _ _ 92 [(0, .ref 18), (1, .int (iI x)), (2, .int (iI w)), (3, .int (iI ((a 5) (i) + 1))), (4, .int (iI va)), (5, .int (iI le)), (6, .int (iI i))] [.int (iI va)] _ _ _ _
          refine pm_e_sim pm_a212_92 rfl ?_
          show pm_E _ _ _ 93 [(0, .ref 18), (1, .int (iI x)), (2, .int (iI w)), (3, .int (iI ((a 5) (i) + 1))), (4, .int (iI va)), (5, .int (iI le)), (6, .int (iI i))] [.ref 18, .int (iI va)] _ _ _ _
          refine pm_i_get pm_a212_93 rfl (mh_get (j := 0) hA rfl) rfl ?_
          show pm_E _ _ _ 96 [(0, .ref 18), (1, .int (iI x)), (2, .int (iI w)), (3, .int (iI ((a 5) (i) + 1))), (4, .int (iI va)), (5, .int (iI le)), (6, .int (iI i))] [.ref 22, .int (iI va)] _ _ _ _
          refine pm_e_sim pm_a212_96 rfl ?_
          show pm_E _ _ _ 98 [(0, .ref 18), (1, .int (iI x)), (2, .int (iI w)), (3, .int (iI ((a 5) (i) + 1))), (4, .int (iI va)), (5, .int (iI le)), (6, .int (iI i))] [.int (iI i), .ref 22, .int (iI va)] _ _ _ _
          refine pm_i_ald pm_a212_98 (mh_get (j := 4) hA rfl) (by omega) (by omega) ⟨by omega, by omega⟩ ?_
          show pm_E _ _ _ 99 [(0, .ref 18), (1, .int (iI x)), (2, .int (iI w)), (3, .int (iI ((a 5) (i) + 1))), (4, .int (iI va)), (5, .int (iI le)), (6, .int (iI i))] [.int (iI ((a 4) (i))), .int (iI va)] _ _ _ _
          have := hr i
          refine pm_e_sim pm_a212_99 rfl ?_
          refine pm_e_top (y := iI 9) (by decide +kernel) ?_
          show pm_E _ _ _ 101 [(0, .ref 18), (1, .int (iI x)), (2, .int (iI w)), (3, .int (iI ((a 5) (i) + 1))), (4, .int (iI va)), (5, .int (iI le)), (6, .int (iI i))] [.int (iI 9), .int (iI ((a 4) (i))), .int (iI va)] _ _ _ _
          refine pm_c_le (t := 108) pm_a212_101 rfl ⟨by omega, by omega⟩ ⟨by omega, by omega⟩ (fun h_16 => ?_) (fun h_16 => ?_)
          · skip
            show pm_E _ _ _ 108 [(0, .ref 18), (1, .int (iI x)), (2, .int (iI w)), (3, .int (iI ((a 5) (i) + 1))), (4, .int (iI va)), (5, .int (iI le)), (6, .int (iI i))] [.int (iI va)] _ _ _ _
            refine pm_e_sim pm_a212_108 rfl ?_
            refine pm_e_top (y := iI 0) (by decide +kernel) ?_
            show pm_E _ _ _ 109 [(0, .ref 18), (1, .int (iI x)), (2, .int (iI w)), (3, .int (iI ((a 5) (i) + 1))), (4, .int (iI va)), (5, .int (iI le)), (6, .int (iI i))] [.int (iI 0), .int (iI va)] _ _ _ _
            refine pm_e_sim pm_a212_109 rfl ?_
            refine pm_e_top (y := iI (va + 0)) (iI_add _ _) ?_
            show pm_E _ _ _ 110 [(0, .ref 18), (1, .int (iI x)), (2, .int (iI w)), (3, .int (iI ((a 5) (i) + 1))), (4, .int (iI va)), (5, .int (iI le)), (6, .int (iI i))] [.int (iI (va + 0))] _ _ _ _
            refine pm_e_sim pm_a212_110 rfl ?_
            show pm_E _ _ _ 112 [(0, .ref 18), (1, .int (iI x)), (2, .int (iI w)), (3, .int (iI ((a 5) (i) + 1))), (4, .int (iI (va + 0))), (5, .int (iI le)), (6, .int (iI i))] [] _ _ _ _
            refine pm_e_sim pm_a212_112 rfl ?_
            show pm_E _ _ _ 114 [(0, .ref 18), (1, .int (iI x)), (2, .int (iI w)), (3, .int (iI ((a 5) (i) + 1))), (4, .int (iI (va + 0))), (5, .int (iI le)), (6, .int (iI i))] [.int (iI le)] _ _ _ _
            refine pm_e_sim pm_a212_114 rfl ?_
            show pm_E _ _ _ 115 [(0, .ref 18), (1, .int (iI x)), (2, .int (iI w)), (3, .int (iI ((a 5) (i) + 1))), (4, .int (iI (va + 0))), (5, .int (iI le)), (6, .int (iI i))] [.ref 18, .int (iI le)] _ _ _ _
            refine pm_i_get pm_a212_115 rfl (mh_get (j := 0) hA rfl) rfl ?_
            show pm_E _ _ _ 118 [(0, .ref 18), (1, .int (iI x)), (2, .int (iI w)), (3, .int (iI ((a 5) (i) + 1))), (4, .int (iI (va + 0))), (5, .int (iI le)), (6, .int (iI i))] [.ref 22, .int (iI le)] _ _ _ _
            refine pm_e_sim pm_a212_118 rfl ?_
            show pm_E _ _ _ 120 [(0, .ref 18), (1, .int (iI x)), (2, .int (iI w)), (3, .int (iI ((a 5) (i) + 1))), (4, .int (iI (va + 0))), (5, .int (iI le)), (6, .int (iI i))] [.int (iI i), .ref 22, .int (iI le)] _ _ _ _
            refine pm_i_ald pm_a212_120 (mh_get (j := 4) hA rfl) (by omega) (by omega) ⟨by omega, by omega⟩ ?_
            show pm_E _ _ _ 121 [(0, .ref 18), (1, .int (iI x)), (2, .int (iI w)), (3, .int (iI ((a 5) (i) + 1))), (4, .int (iI (va + 0))), (5, .int (iI le)), (6, .int (iI i))] [.int (iI ((a 4) (i))), .int (iI le)] _ _ _ _
            have := hr i
            refine pm_e_sim pm_a212_121 rfl ?_
            refine pm_l_top (y := lI ((a 4) (i))) (iI_l ⟨by omega, by omega⟩) ?_
            show pm_E _ _ _ 122 [(0, .ref 18), (1, .int (iI x)), (2, .int (iI w)), (3, .int (iI ((a 5) (i) + 1))), (4, .int (iI (va + 0))), (5, .int (iI le)), (6, .int (iI i))] [.long (lI ((a 4) (i))), .int (iI le)] _ _ _ _
            refine pm_e_rd pm_a212_122 rfl rfl rfl ?_
            refine pm_l_top (y := lI 2) (by decide +kernel) ?_
            show pm_E _ _ _ 125 [(0, .ref 18), (1, .int (iI x)), (2, .int (iI w)), (3, .int (iI ((a 5) (i) + 1))), (4, .int (iI (va + 0))), (5, .int (iI le)), (6, .int (iI i))] [.long (lI 2), .long (lI ((a 4) (i))), .int (iI le)] _ _ _ _
            refine pm_e_rd pm_a212_125 rfl rfl rfl ?_
            refine pm_l_top (y := lI 6) (by decide +kernel) ?_
            show pm_E _ _ _ 128 [(0, .ref 18), (1, .int (iI x)), (2, .int (iI w)), (3, .int (iI ((a 5) (i) + 1))), (4, .int (iI (va + 0))), (5, .int (iI le)), (6, .int (iI i))] [.long (lI 6), .long (lI 2), .long (lI ((a 4) (i))), .int (iI le)] _ _ _ _
            refine pm_e_call (T2 := pm_mm147) pm_a212_128 rfl rfl rfl rfl rfl rfl rfl rfl rfl ?_
            show pm_E none _ _ 0 [(0, .long (lI ((a 4) (i)))), (2, .long (lI 2)), (4, .long (lI 6))] [] _ _ _ _
            refine M_in ⟨by omega, by omega⟩ ⟨by omega, by omega⟩ ⟨by omega, by omega⟩ (fun h_17 => ?_) (fun h_17 => ?_)
            · skip
              show pm_E _ _ _ 131 [(0, .ref 18), (1, .int (iI x)), (2, .int (iI w)), (3, .int (iI ((a 5) (i) + 1))), (4, .int (iI (va + 0))), (5, .int (iI le)), (6, .int (iI i))] [.int (iI 1), .int (iI le)] _ _ _ _
              refine pm_e_iff pm_a212_131 rfl (by decide +kernel) ?_
              show pm_E _ _ _ 134 [(0, .ref 18), (1, .int (iI x)), (2, .int (iI w)), (3, .int (iI ((a 5) (i) + 1))), (4, .int (iI (va + 0))), (5, .int (iI le)), (6, .int (iI i))] [.int (iI le)] _ _ _ _
              refine pm_e_sim pm_a212_134 rfl ?_
              refine pm_e_top (y := iI 1) (by decide +kernel) ?_
              show pm_E _ _ _ 135 [(0, .ref 18), (1, .int (iI x)), (2, .int (iI w)), (3, .int (iI ((a 5) (i) + 1))), (4, .int (iI (va + 0))), (5, .int (iI le)), (6, .int (iI i))] [.int (iI 1), .int (iI le)] _ _ _ _
              refine pm_e_goto pm_a212_135 rfl ?_
              show pm_E _ _ _ 139 [(0, .ref 18), (1, .int (iI x)), (2, .int (iI w)), (3, .int (iI ((a 5) (i) + 1))), (4, .int (iI (va + 0))), (5, .int (iI le)), (6, .int (iI i))] [.int (iI 1), .int (iI le)] _ _ _ _
              refine pm_e_sim pm_a212_139 rfl ?_
              refine pm_e_top (y := iI (le + 1)) (iI_add _ _) ?_
              show pm_E _ _ _ 140 [(0, .ref 18), (1, .int (iI x)), (2, .int (iI w)), (3, .int (iI ((a 5) (i) + 1))), (4, .int (iI (va + 0))), (5, .int (iI le)), (6, .int (iI i))] [.int (iI (le + 1))] _ _ _ _
              refine pm_e_sim pm_a212_140 rfl ?_
              show pm_E _ _ _ 142 [(0, .ref 18), (1, .int (iI x)), (2, .int (iI w)), (3, .int (iI ((a 5) (i) + 1))), (4, .int (iI (va + 0))), (5, .int (iI (le + 1))), (6, .int (iI i))] [] _ _ _ _
              refine pm_e_inc (y := iI (i + 1)) pm_a212_142 rfl (iI_add _ _) (by decide +kernel) rfl ?_
              show pm_E _ _ _ 145 [(0, .ref 18), (1, .int (iI x)), (2, .int (iI w)), (3, .int (iI ((a 5) (i) + 1))), (4, .int (iI (va + 0))), (5, .int (iI (le + 1))), (6, .int (iI (i + 1)))] [] _ _ _ _
              refine pm_e_goto pm_a212_145 rfl ?_
              show pm_E _ _ _ 43 [(0, .ref 18), (1, .int (iI x)), (2, .int (iI w)), (3, .int (iI ((a 5) (i) + 1))), (4, .int (iI (va + 0))), (5, .int (iI (le + 1))), (6, .int (iI (i + 1)))] [] _ _ _ _
              exact ih (i + 1) _ _ _ (by omega) (by omega) (by omega) (by omega) (by omega) (by omega)
            · skip
              show pm_E _ _ _ 131 [(0, .ref 18), (1, .int (iI x)), (2, .int (iI w)), (3, .int (iI ((a 5) (i) + 1))), (4, .int (iI (va + 0))), (5, .int (iI le)), (6, .int (iI i))] [.int (iI 0), .int (iI le)] _ _ _ _
              refine pm_e_ift pm_a212_131 rfl (by decide +kernel) ?_
              show pm_E _ _ _ 138 [(0, .ref 18), (1, .int (iI x)), (2, .int (iI w)), (3, .int (iI ((a 5) (i) + 1))), (4, .int (iI (va + 0))), (5, .int (iI le)), (6, .int (iI i))] [.int (iI le)] _ _ _ _
              refine pm_e_sim pm_a212_138 rfl ?_
              refine pm_e_top (y := iI 0) (by decide +kernel) ?_
              show pm_E _ _ _ 139 [(0, .ref 18), (1, .int (iI x)), (2, .int (iI w)), (3, .int (iI ((a 5) (i) + 1))), (4, .int (iI (va + 0))), (5, .int (iI le)), (6, .int (iI i))] [.int (iI 0), .int (iI le)] _ _ _ _
              refine pm_e_sim pm_a212_139 rfl ?_
              refine pm_e_top (y := iI (le + 0)) (iI_add _ _) ?_
              show pm_E _ _ _ 140 [(0, .ref 18), (1, .int (iI x)), (2, .int (iI w)), (3, .int (iI ((a 5) (i) + 1))), (4, .int (iI (va + 0))), (5, .int (iI le)), (6, .int (iI i))] [.int (iI (le + 0))] _ _ _ _
              refine pm_e_sim pm_a212_140 rfl ?_
              show pm_E _ _ _ 142 [(0, .ref 18), (1, .int (iI x)), (2, .int (iI w)), (3, .int (iI ((a 5) (i) + 1))), (4, .int (iI (va + 0))), (5, .int (iI (le + 0))), (6, .int (iI i))] [] _ _ _ _
              refine pm_e_inc (y := iI (i + 1)) pm_a212_142 rfl (iI_add _ _) (by decide +kernel) rfl ?_
              show pm_E _ _ _ 145 [(0, .ref 18), (1, .int (iI x)), (2, .int (iI w)), (3, .int (iI ((a 5) (i) + 1))), (4, .int (iI (va + 0))), (5, .int (iI (le + 0))), (6, .int (iI (i + 1)))] [] _ _ _ _
              refine pm_e_goto pm_a212_145 rfl ?_
              show pm_E _ _ _ 43 [(0, .ref 18), (1, .int (iI x)), (2, .int (iI w)), (3, .int (iI ((a 5) (i) + 1))), (4, .int (iI (va + 0))), (5, .int (iI (le + 0))), (6, .int (iI (i + 1)))] [] _ _ _ _
              exact ih (i + 1) _ _ _ (by omega) (by omega) (by omega) (by omega) (by omega) (by omega)
          · skip
            show pm_E _ _ _ 104 [(0, .ref 18), (1, .int (iI x)), (2, .int (iI w)), (3, .int (iI ((a 5) (i) + 1))), (4, .int (iI va)), (5, .int (iI le)), (6, .int (iI i))] [.int (iI va)] _ _ _ _
            refine pm_e_sim pm_a212_104 rfl ?_
            refine pm_e_top (y := iI 1) (by decide +kernel) ?_
            show pm_E _ _ _ 105 [(0, .ref 18), (1, .int (iI x)), (2, .int (iI w)), (3, .int (iI ((a 5) (i) + 1))), (4, .int (iI va)), (5, .int (iI le)), (6, .int (iI i))] [.int (iI 1), .int (iI va)] _ _ _ _
            refine pm_e_goto pm_a212_105 rfl ?_
            show pm_E _ _ _ 109 [(0, .ref 18), (1, .int (iI x)), (2, .int (iI w)), (3, .int (iI ((a 5) (i) + 1))), (4, .int (iI va)), (5, .int (iI le)), (6, .int (iI i))] [.int (iI 1), .int (iI va)] _ _ _ _
            refine pm_e_sim pm_a212_109 rfl ?_
            refine pm_e_top (y := iI (va + 1)) (iI_add _ _) ?_
            show pm_E _ _ _ 110 [(0, .ref 18), (1, .int (iI x)), (2, .int (iI w)), (3, .int (iI ((a 5) (i) + 1))), (4, .int (iI va)), (5, .int (iI le)), (6, .int (iI i))] [.int (iI (va + 1))] _ _ _ _
            refine pm_e_sim pm_a212_110 rfl ?_
            show pm_E _ _ _ 112 [(0, .ref 18), (1, .int (iI x)), (2, .int (iI w)), (3, .int (iI ((a 5) (i) + 1))), (4, .int (iI (va + 1))), (5, .int (iI le)), (6, .int (iI i))] [] _ _ _ _
            refine pm_e_sim pm_a212_112 rfl ?_
            show pm_E _ _ _ 114 [(0, .ref 18), (1, .int (iI x)), (2, .int (iI w)), (3, .int (iI ((a 5) (i) + 1))), (4, .int (iI (va + 1))), (5, .int (iI le)), (6, .int (iI i))] [.int (iI le)] _ _ _ _
            refine pm_e_sim pm_a212_114 rfl ?_
            show pm_E _ _ _ 115 [(0, .ref 18), (1, .int (iI x)), (2, .int (iI w)), (3, .int (iI ((a 5) (i) + 1))), (4, .int (iI (va + 1))), (5, .int (iI le)), (6, .int (iI i))] [.ref 18, .int (iI le)] _ _ _ _
            refine pm_i_get pm_a212_115 rfl (mh_get (j := 0) hA rfl) rfl ?_
            show pm_E _ _ _ 118 [(0, .ref 18), (1, .int (iI x)), (2, .int (iI w)), (3, .int (iI ((a 5) (i) + 1))), (4, .int (iI (va + 1))), (5, .int (iI le)), (6, .int (iI i))] [.ref 22, .int (iI le)] _ _ _ _
            refine pm_e_sim pm_a212_118 rfl ?_
            show pm_E _ _ _ 120 [(0, .ref 18), (1, .int (iI x)), (2, .int (iI w)), (3, .int (iI ((a 5) (i) + 1))), (4, .int (iI (va + 1))), (5, .int (iI le)), (6, .int (iI i))] [.int (iI i), .ref 22, .int (iI le)] _ _ _ _
            refine pm_i_ald pm_a212_120 (mh_get (j := 4) hA rfl) (by omega) (by omega) ⟨by omega, by omega⟩ ?_
            show pm_E _ _ _ 121 [(0, .ref 18), (1, .int (iI x)), (2, .int (iI w)), (3, .int (iI ((a 5) (i) + 1))), (4, .int (iI (va + 1))), (5, .int (iI le)), (6, .int (iI i))] [.int (iI ((a 4) (i))), .int (iI le)] _ _ _ _
            have := hr i
            refine pm_e_sim pm_a212_121 rfl ?_
            refine pm_l_top (y := lI ((a 4) (i))) (iI_l ⟨by omega, by omega⟩) ?_
            show pm_E _ _ _ 122 [(0, .ref 18), (1, .int (iI x)), (2, .int (iI w)), (3, .int (iI ((a 5) (i) + 1))), (4, .int (iI (va + 1))), (5, .int (iI le)), (6, .int (iI i))] [.long (lI ((a 4) (i))), .int (iI le)] _ _ _ _
            refine pm_e_rd pm_a212_122 rfl rfl rfl ?_
            refine pm_l_top (y := lI 2) (by decide +kernel) ?_
            show pm_E _ _ _ 125 [(0, .ref 18), (1, .int (iI x)), (2, .int (iI w)), (3, .int (iI ((a 5) (i) + 1))), (4, .int (iI (va + 1))), (5, .int (iI le)), (6, .int (iI i))] [.long (lI 2), .long (lI ((a 4) (i))), .int (iI le)] _ _ _ _
            refine pm_e_rd pm_a212_125 rfl rfl rfl ?_
            refine pm_l_top (y := lI 6) (by decide +kernel) ?_
            show pm_E _ _ _ 128 [(0, .ref 18), (1, .int (iI x)), (2, .int (iI w)), (3, .int (iI ((a 5) (i) + 1))), (4, .int (iI (va + 1))), (5, .int (iI le)), (6, .int (iI i))] [.long (lI 6), .long (lI 2), .long (lI ((a 4) (i))), .int (iI le)] _ _ _ _
            refine pm_e_call (T2 := pm_mm147) pm_a212_128 rfl rfl rfl rfl rfl rfl rfl rfl rfl ?_
            show pm_E none _ _ 0 [(0, .long (lI ((a 4) (i)))), (2, .long (lI 2)), (4, .long (lI 6))] [] _ _ _ _
            refine M_in ⟨by omega, by omega⟩ ⟨by omega, by omega⟩ ⟨by omega, by omega⟩ (fun h_18 => ?_) (fun h_18 => ?_)
            · skip
              show pm_E _ _ _ 131 [(0, .ref 18), (1, .int (iI x)), (2, .int (iI w)), (3, .int (iI ((a 5) (i) + 1))), (4, .int (iI (va + 1))), (5, .int (iI le)), (6, .int (iI i))] [.int (iI 1), .int (iI le)] _ _ _ _
              refine pm_e_iff pm_a212_131 rfl (by decide +kernel) ?_
              show pm_E _ _ _ 134 [(0, .ref 18), (1, .int (iI x)), (2, .int (iI w)), (3, .int (iI ((a 5) (i) + 1))), (4, .int (iI (va + 1))), (5, .int (iI le)), (6, .int (iI i))] [.int (iI le)] _ _ _ _
              refine pm_e_sim pm_a212_134 rfl ?_
              refine pm_e_top (y := iI 1) (by decide +kernel) ?_
              show pm_E _ _ _ 135 [(0, .ref 18), (1, .int (iI x)), (2, .int (iI w)), (3, .int (iI ((a 5) (i) + 1))), (4, .int (iI (va + 1))), (5, .int (iI le)), (6, .int (iI i))] [.int (iI 1), .int (iI le)] _ _ _ _
              refine pm_e_goto pm_a212_135 rfl ?_
              show pm_E _ _ _ 139 [(0, .ref 18), (1, .int (iI x)), (2, .int (iI w)), (3, .int (iI ((a 5) (i) + 1))), (4, .int (iI (va + 1))), (5, .int (iI le)), (6, .int (iI i))] [.int (iI 1), .int (iI le)] _ _ _ _
              refine pm_e_sim pm_a212_139 rfl ?_
              refine pm_e_top (y := iI (le + 1)) (iI_add _ _) ?_
              show pm_E _ _ _ 140 [(0, .ref 18), (1, .int (iI x)), (2, .int (iI w)), (3, .int (iI ((a 5) (i) + 1))), (4, .int (iI (va + 1))), (5, .int (iI le)), (6, .int (iI i))] [.int (iI (le + 1))] _ _ _ _
              refine pm_e_sim pm_a212_140 rfl ?_
              show pm_E _ _ _ 142 [(0, .ref 18), (1, .int (iI x)), (2, .int (iI w)), (3, .int (iI ((a 5) (i) + 1))), (4, .int (iI (va + 1))), (5, .int (iI (le + 1))), (6, .int (iI i))] [] _ _ _ _
              refine pm_e_inc (y := iI (i + 1)) pm_a212_142 rfl (iI_add _ _) (by decide +kernel) rfl ?_
              show pm_E _ _ _ 145 [(0, .ref 18), (1, .int (iI x)), (2, .int (iI w)), (3, .int (iI ((a 5) (i) + 1))), (4, .int (iI (va + 1))), (5, .int (iI (le + 1))), (6, .int (iI (i + 1)))] [] _ _ _ _
              refine pm_e_goto pm_a212_145 rfl ?_
              show pm_E _ _ _ 43 [(0, .ref 18), (1, .int (iI x)), (2, .int (iI w)), (3, .int (iI ((a 5) (i) + 1))), (4, .int (iI (va + 1))), (5, .int (iI (le + 1))), (6, .int (iI (i + 1)))] [] _ _ _ _
              exact ih (i + 1) _ _ _ (by omega) (by omega) (by omega) (by omega) (by omega) (by omega)
            · skip
              show pm_E _ _ _ 131 [(0, .ref 18), (1, .int (iI x)), (2, .int (iI w)), (3, .int (iI ((a 5) (i) + 1))), (4, .int (iI (va + 1))), (5, .int (iI le)), (6, .int (iI i))] [.int (iI 0), .int (iI le)] _ _ _ _
              refine pm_e_ift pm_a212_131 rfl (by decide +kernel) ?_
              show pm_E _ _ _ 138 [(0, .ref 18), (1, .int (iI x)), (2, .int (iI w)), (3, .int (iI ((a 5) (i) + 1))), (4, .int (iI (va + 1))), (5, .int (iI le)), (6, .int (iI i))] [.int (iI le)] _ _ _ _
              refine pm_e_sim pm_a212_138 rfl ?_
              refine pm_e_top (y := iI 0) (by decide +kernel) ?_
              show pm_E _ _ _ 139 [(0, .ref 18), (1, .int (iI x)), (2, .int (iI w)), (3, .int (iI ((a 5) (i) + 1))), (4, .int (iI (va + 1))), (5, .int (iI le)), (6, .int (iI i))] [.int (iI 0), .int (iI le)] _ _ _ _
              refine pm_e_sim pm_a212_139 rfl ?_
              refine pm_e_top (y := iI (le + 0)) (iI_add _ _) ?_
              show pm_E _ _ _ 140 [(0, .ref 18), (1, .int (iI x)), (2, .int (iI w)), (3, .int (iI ((a 5) (i) + 1))), (4, .int (iI (va + 1))), (5, .int (iI le)), (6, .int (iI i))] [.int (iI (le + 0))] _ _ _ _
              refine pm_e_sim pm_a212_140 rfl ?_
              show pm_E _ _ _ 142 [(0, .ref 18), (1, .int (iI x)), (2, .int (iI w)), (3, .int (iI ((a 5) (i) + 1))), (4, .int (iI (va + 1))), (5, .int (iI (le + 0))), (6, .int (iI i))] [] _ _ _ _
              refine pm_e_inc (y := iI (i + 1)) pm_a212_142 rfl (iI_add _ _) (by decide +kernel) rfl ?_
              show pm_E _ _ _ 145 [(0, .ref 18), (1, .int (iI x)), (2, .int (iI w)), (3, .int (iI ((a 5) (i) + 1))), (4, .int (iI (va + 1))), (5, .int (iI (le + 0))), (6, .int (iI (i + 1)))] [] _ _ _ _
              refine pm_e_goto pm_a212_145 rfl ?_
              show pm_E _ _ _ 43 [(0, .ref 18), (1, .int (iI x)), (2, .int (iI w)), (3, .int (iI ((a 5) (i) + 1))), (4, .int (iI (va + 1))), (5, .int (iI (le + 0))), (6, .int (iI (i + 1)))] [] _ _ _ _
              exact ih (i + 1) _ _ _ (by omega) (by omega) (by omega) (by omega) (by omega) (by omega)
set_option maxHeartbeats 4000000 in
set_option maxRecDepth 100000 in
theorem M_about {d : Nat} {A B : List va_E} {s : Nat → Int} {vl : Int64} {a : Nat → Int → Int} {nm : Nat → Int64} {Q : Option Value → List va_E → Nat → Nat → Prop} {n x : Int} {T : Int → List Int} {w : Int} (hA : A.length = 18) (hin : ∀ i j, in32 (a i j)) (hok : okT n T) (hsh : sh s a n T) (hx : in32 x) (hw : in32 w) (k : ∀ r s' a', s' 0 = s 0 → (s' 4 = s 4 ∧ s' 45 = s 45 ∧ s' 30 = s 30 ∧ s' 31 = s 31 ∧ s' 13 = s 13) → a' 1 = a 1 → a' 2 = a 2 → a' 3 = a 3 → Q (some (.int (iI r))) (mh A s' vl a' nm B) 0 0) : pm_E none (d + 3) pm_mm212 0 [(0, .ref 18), (1, .int (iI x)), (2, .int (iI w))] [] (mh A s vl a nm B) 0 0 Q := by
  obtain ⟨on0, on1, okk⟩ := id hok
  have s0 := hsh.1
  refine pm_e_sim pm_a212_0 rfl ?_
  show pm_E _ _ _ 1 [(0, .ref 18), (1, .int (iI x)), (2, .int (iI w))] [.ref 18] _ _ _ _
  refine pm_e_sim pm_a212_1 rfl ?_
  show pm_E _ _ _ 2 [(0, .ref 18), (1, .int (iI x)), (2, .int (iI w))] [.int (iI x), .ref 18] _ _ _ _
  refine pm_i_callv (k := 18) (T2 := pm_mm165) pm_a212_2 rfl rfl rfl (mh_get (j := 0) hA rfl) ⟨Nat.le_of_ble_eq_true rfl, Nat.le_of_ble_eq_true rfl, rfl, by decide +kernel⟩ ?_
  show pm_E none _ _ 0 [(0, .ref 18), (1, .int (iI x))] [] _ _ _ _
  refine M_isTerm hA ⟨by omega, by omega⟩ (by omega) (by omega) (fun h_1 => ?_) (fun h_1 => ?_)
  · skip
    show pm_E _ _ _ 5 [(0, .ref 18), (1, .int (iI x)), (2, .int (iI w))] [.int (iI 1)] _ _ _ _
    refine pm_e_iff pm_a212_5 rfl (by decide +kernel) ?_
    show pm_E _ _ _ 8 [(0, .ref 18), (1, .int (iI x)), (2, .int (iI w))] [] _ _ _ _
    refine pm_e_sim pm_a212_8 rfl ?_
    show pm_E _ _ _ 9 [(0, .ref 18), (1, .int (iI x)), (2, .int (iI w))] [.int (iI w)] _ _ _ _
    refine pm_e_sim pm_a212_9 rfl ?_
    refine pm_l_top (y := lI (w)) (iI_l ⟨by omega, by omega⟩) ?_
    show pm_E _ _ _ 10 [(0, .ref 18), (1, .int (iI x)), (2, .int (iI w))] [.long (lI w)] _ _ _ _
    refine pm_e_sim pm_a212_10 rfl ?_
    refine pm_l_top (y := lI 0) (by decide +kernel) ?_
    show pm_E _ _ _ 11 [(0, .ref 18), (1, .int (iI x)), (2, .int (iI w))] [.long (lI 0), .long (lI w)] _ _ _ _
    refine pm_e_rd pm_a212_11 rfl rfl rfl ?_
    refine pm_l_top (y := lI 4) (by decide +kernel) ?_
    show pm_E _ _ _ 14 [(0, .ref 18), (1, .int (iI x)), (2, .int (iI w))] [.long (lI 4), .long (lI 0), .long (lI w)] _ _ _ _
    refine pm_e_call (T2 := pm_mm147) pm_a212_14 rfl rfl rfl rfl rfl rfl rfl rfl rfl ?_
    show pm_E none _ _ 0 [(0, .long (lI w)), (2, .long (lI 0)), (4, .long (lI 4))] [] _ _ _ _
    refine M_in ⟨by omega, by omega⟩ ⟨by omega, by omega⟩ ⟨by omega, by omega⟩ (fun h_2 => ?_) (fun h_2 => ?_)
    · skip
      show pm_E _ _ _ 17 [(0, .ref 18), (1, .int (iI x)), (2, .int (iI w))] [.int (iI 1)] _ _ _ _
      refine pm_e_ift pm_a212_17 rfl (by decide +kernel) ?_
      show pm_E _ _ _ 22 [(0, .ref 18), (1, .int (iI x)), (2, .int (iI w))] [] _ _ _ _
      refine pm_e_sim pm_a212_22 rfl ?_
      show pm_E _ _ _ 23 [(0, .ref 18), (1, .int (iI x)), (2, .int (iI w))] [.ref 18] _ _ _ _
      refine pm_e_sim pm_a212_23 rfl ?_
      show pm_E _ _ _ 24 [(0, .ref 18), (1, .int (iI x)), (2, .int (iI w))] [.int (iI x), .ref 18] _ _ _ _
      refine pm_i_callv (k := 18) (T2 := pm_mm168) pm_a212_24 rfl rfl rfl (mh_get (j := 0) hA rfl) ⟨Nat.le_of_ble_eq_true rfl, Nat.le_of_ble_eq_true rfl, rfl, by decide +kernel⟩ ?_
      show pm_E none _ _ 0 [(0, .ref 18), (1, .int (iI x))] [] _ _ _ _
      obtain ⟨tl, ft, tt⟩ := hok.2.2 x (by omega) (by omega)
      have tp := tL_pos tt
      have ts := (hsh.2 x (by omega) (by omega)).1
      have tk := sh_take hsh (x := x) (by omega) (by omega)
      refine M_take hA (by omega) (by omega) (by omega) (by omega) (fun s1 a1 es ea => ?_)
      have e6 : s1 6 = (T x).length := by rw [es, ← ts]; rfl
      have t1 : tm (a1 4) ft 0 0 (s1 6) := by rw [e6, ea]; exact tL_tm0 tt tk
      have hr1 : ∀ j, in32 (a1 4 j) := fun j => by rw [ea]; exact cpI_in (hin 4) (hin 2) j
      have g1 : rg (a1 4) (T x).length 0 = T x := by rw [ea]; exact tk
      show pm_E _ _ _ 27 [(0, .ref 18), (1, .int (iI x)), (2, .int (iI w))] [] _ _ _ _
      refine pm_e_sim pm_a212_27 rfl ?_
      show pm_E _ _ _ 28 [(0, .ref 18), (1, .int (iI x)), (2, .int (iI w))] [.ref 18] _ _ _ _
      refine pm_e_sim pm_a212_28 rfl ?_
      refine pm_e_top (y := iI 0) (by decide +kernel) ?_
      show pm_E _ _ _ 29 [(0, .ref 18), (1, .int (iI x)), (2, .int (iI w))] [.int (iI 0), .ref 18] _ _ _ _
      refine pm_i_callv (k := 18) (T2 := pm_mm171) pm_a212_29 rfl rfl rfl (mh_get (j := 0) hA rfl) ⟨Nat.le_of_ble_eq_true rfl, Nat.le_of_ble_eq_true rfl, rfl, by decide +kernel⟩ ?_
      show pm_E none _ _ 0 [(0, .ref 18), (1, .int (iI 0))] [] _ _ _ _
      refine M_depT hA hr1 t1 (by omega) (by omega) (fun P D _ dD => ?_)
      have dI := dp_in dD
      show pm_E _ _ _ 32 [(0, .ref 18), (1, .int (iI x)), (2, .int (iI w))] [] _ _ _ _
      refine pm_e_sim pm_a212_32 rfl ?_
      refine pm_e_top (y := iI 0) (by decide +kernel) ?_
      show pm_E _ _ _ 33 [(0, .ref 18), (1, .int (iI x)), (2, .int (iI w))] [.int (iI 0)] _ _ _ _
      refine pm_e_sim pm_a212_33 rfl ?_
      show pm_E _ _ _ 34 [(0, .ref 18), (1, .int (iI x)), (2, .int (iI w)), (3, .int (iI 0))] [] _ _ _ _
      refine pm_e_sim pm_a212_34 rfl ?_
      refine pm_e_top (y := iI 0) (by decide +kernel) ?_
      show pm_E _ _ _ 35 [(0, .ref 18), (1, .int (iI x)), (2, .int (iI w)), (3, .int (iI 0))] [.int (iI 0)] _ _ _ _
      refine pm_e_sim pm_a212_35 rfl ?_
      show pm_E _ _ _ 37 [(0, .ref 18), (1, .int (iI x)), (2, .int (iI w)), (3, .int (iI 0)), (4, .int (iI 0))] [] _ _ _ _
      refine pm_e_sim pm_a212_37 rfl ?_
      refine pm_e_top (y := iI 0) (by decide +kernel) ?_
      show pm_E _ _ _ 38 [(0, .ref 18), (1, .int (iI x)), (2, .int (iI w)), (3, .int (iI 0)), (4, .int (iI 0))] [.int (iI 0)] _ _ _ _
      refine pm_e_sim pm_a212_38 rfl ?_
      show pm_E _ _ _ 40 [(0, .ref 18), (1, .int (iI x)), (2, .int (iI w)), (3, .int (iI 0)), (4, .int (iI 0)), (5, .int (iI 0))] [] _ _ _ _
      refine pm_e_sim pm_a212_40 rfl ?_
      refine pm_e_top (y := iI 0) (by decide +kernel) ?_
      show pm_E _ _ _ 41 [(0, .ref 18), (1, .int (iI x)), (2, .int (iI w)), (3, .int (iI 0)), (4, .int (iI 0)), (5, .int (iI 0))] [.int (iI 0)] _ _ _ _
      refine pm_e_sim pm_a212_41 rfl ?_
      show pm_E _ _ _ 43 [(0, .ref 18), (1, .int (iI x)), (2, .int (iI w)), (3, .int (iI 0)), (4, .int (iI 0)), (5, .int (iI 0)), (6, .int (iI 0))] [] _ _ _ _
      exact M_about_l (a := updA (updA a1 5 D) 6 P) hA hr1 (fun j z y => by have := dI j z y; show 0 ≤ D j ∧ D j ≤ 1000; omega) (by omega) (by omega) (by omega) (fun r => k r _ _ (by rw [es]; rfl) ⟨by rw [es]; rfl, by rw [es]; rfl, by rw [es]; rfl, by rw [es]; rfl, by rw [es]; rfl⟩ (by rw [ea]; rfl) (by rw [ea]; rfl) (by rw [ea]; rfl)) 501 0 0 0 0 (by omega) (by omega) (by omega) (by omega) (by omega) (by omega)
    · skip
      show pm_E _ _ _ 17 [(0, .ref 18), (1, .int (iI x)), (2, .int (iI w))] [.int (iI 0)] _ _ _ _
      refine pm_e_iff pm_a212_17 rfl (by decide +kernel) ?_
      show pm_E _ _ _ 20 [(0, .ref 18), (1, .int (iI x)), (2, .int (iI w))] [] _ _ _ _
      refine pm_e_sim pm_a212_20 rfl ?_
      refine pm_e_top (y := iI (-1)) (by decide +kernel) ?_
      show pm_E _ _ _ 21 [(0, .ref 18), (1, .int (iI x)), (2, .int (iI w))] [.int (iI (-1))] _ _ _ _
      refine pm_e_ret pm_a212_21 rfl rfl rfl rfl rfl rfl rfl rfl ?_
      exact k _ s a rfl ⟨rfl, rfl, rfl, rfl, rfl⟩ rfl rfl rfl
  · skip
    show pm_E _ _ _ 5 [(0, .ref 18), (1, .int (iI x)), (2, .int (iI w))] [.int (iI 0)] _ _ _ _
    refine pm_e_ift pm_a212_5 rfl (by decide +kernel) ?_
    show pm_E _ _ _ 20 [(0, .ref 18), (1, .int (iI x)), (2, .int (iI w))] [] _ _ _ _
    refine pm_e_sim pm_a212_20 rfl ?_
    refine pm_e_top (y := iI (-1)) (by decide +kernel) ?_
    show pm_E _ _ _ 21 [(0, .ref 18), (1, .int (iI x)), (2, .int (iI w))] [.int (iI (-1))] _ _ _ _
    refine pm_e_ret pm_a212_21 rfl rfl rfl rfl rfl rfl rfl rfl ?_
    exact k _ s a rfl ⟨rfl, rfl, rfl, rfl, rfl⟩ rfl rfl rfl
