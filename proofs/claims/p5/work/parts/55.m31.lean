/-! THE REFERENCE: apply, same, number, read, the whole -/
theorem pm_q_v {Q : Option Value → List va_E → Nat → Nat → Prop} {x y : Int32} {h : List va_E} (e : x = y) (k : Q (some (.int y)) h 0 0) : Q (some (.int x)) h 0 0 := by rw [e]; exact k
set_option maxHeartbeats 4000000 in
set_option maxRecDepth 100000 in
theorem M_apply {d : Nat} {A B : List va_E} {s : Nat → Int} {vl : Int64} {a : Nat → Int → Int} {nm : Nat → Int64} {Q : Option Value → List va_E → Nat → Nat → Prop} {n x : Int} {T : Int → List Int} {u : Int} (hA : A.length = 18) (hin : ∀ i j, in32 (a i j)) (hok : okT n T) (hsh : sh s a n T) (hx : in32 x) (hu : in32 u) (kb : (x < 0 ∨ n ≤ x ∨ u < 0 ∨ n ≤ u) → Q (some (.int (iI (-1)))) (mh A s vl a nm B) 0 0) (kf : 0 ≤ x ∧ x < n ∧ 0 ≤ u ∧ u < n ∧ (n = 32 ∨ 500 < a 1 x + a 1 u + 1) → Q (some (.int (iI (-3)))) (mh A s vl a nm B) 0 0) (k : 0 ≤ x ∧ x < n ∧ 0 ≤ u ∧ u < n → n < 32 → a 1 x + a 1 u + 1 ≤ 500 → ∀ s' a', sh s' a' (n + 1) (upT T n ([0] ++ T x ++ T u)) → (s' 4 = s 4 ∧ s' 45 = s 45 ∧ s' 30 = s 30 ∧ s' 31 = s 31 ∧ s' 13 = s 13) → a' 3 = a 3 → Q (some (.int (iI n))) (mh A s' vl a' nm B) 0 0) : pm_E none (d + 3) pm_mm174 0 [(0, .ref 18), (1, .int (iI x)), (2, .int (iI u))] [] (mh A s vl a nm B) 0 0 Q := by
  obtain ⟨on0, on1, okk⟩ := id hok
  have s0 := hsh.1
  have hsz : ∀ t, 0 ≤ t → t < n → 1 ≤ a 1 t ∧ a 1 t ≤ 500 := fun t z y => by have := (hsh.2 t z y).1; obtain ⟨h1, f, h2⟩ := okk t z y; have := tL_pos h2; omega
  refine pm_e_sim pm_a174_0 rfl ?_
  show pm_E _ _ _ 1 [(0, .ref 18), (1, .int (iI x)), (2, .int (iI u))] [.ref 18] _ _ _ _
  refine pm_e_sim pm_a174_1 rfl ?_
  show pm_E _ _ _ 2 [(0, .ref 18), (1, .int (iI x)), (2, .int (iI u))] [.int (iI x), .ref 18] _ _ _ _
  refine pm_i_callv (k := 18) (T2 := pm_mm165) pm_a174_2 rfl rfl rfl (mh_get (j := 0) hA rfl) ⟨Nat.le_of_ble_eq_true rfl, Nat.le_of_ble_eq_true rfl, rfl, by decide +kernel⟩ ?_
  show pm_E none _ _ 0 [(0, .ref 18), (1, .int (iI x))] [] _ _ _ _
  refine M_isTerm hA ⟨by omega, by omega⟩ (by omega) (by omega) (fun h_1 => ?_) (fun h_1 => ?_)
  · skip
    show pm_E _ _ _ 5 [(0, .ref 18), (1, .int (iI x)), (2, .int (iI u))] [.int (iI 1)] _ _ _ _
    refine pm_e_iff pm_a174_5 rfl (by decide +kernel) ?_
    show pm_E _ _ _ 8 [(0, .ref 18), (1, .int (iI x)), (2, .int (iI u))] [] _ _ _ _
    refine pm_e_sim pm_a174_8 rfl ?_
    show pm_E _ _ _ 9 [(0, .ref 18), (1, .int (iI x)), (2, .int (iI u))] [.ref 18] _ _ _ _
    refine pm_e_sim pm_a174_9 rfl ?_
    show pm_E _ _ _ 10 [(0, .ref 18), (1, .int (iI x)), (2, .int (iI u))] [.int (iI u), .ref 18] _ _ _ _
    refine pm_i_callv (k := 18) (T2 := pm_mm165) pm_a174_10 rfl rfl rfl (mh_get (j := 0) hA rfl) ⟨Nat.le_of_ble_eq_true rfl, Nat.le_of_ble_eq_true rfl, rfl, by decide +kernel⟩ ?_
    show pm_E none _ _ 0 [(0, .ref 18), (1, .int (iI u))] [] _ _ _ _
    refine M_isTerm hA ⟨by omega, by omega⟩ (by omega) (by omega) (fun h_2 => ?_) (fun h_2 => ?_)
    · skip
      show pm_E _ _ _ 13 [(0, .ref 18), (1, .int (iI x)), (2, .int (iI u))] [.int (iI 1)] _ _ _ _
      refine pm_e_ift pm_a174_13 rfl (by decide +kernel) ?_
      show pm_E _ _ _ 18 [(0, .ref 18), (1, .int (iI x)), (2, .int (iI u))] [] _ _ _ _
      refine pm_e_sim pm_a174_18 rfl ?_
      show pm_E _ _ _ 19 [(0, .ref 18), (1, .int (iI x)), (2, .int (iI u))] [.ref 18] _ _ _ _
      refine pm_i_get pm_a174_19 rfl (mh_get (j := 0) hA rfl) rfl ?_
      show pm_E _ _ _ 22 [(0, .ref 18), (1, .int (iI x)), (2, .int (iI u))] [.int (iI (s 0))] _ _ _ _
      refine pm_e_sim pm_a174_22 rfl ?_
      refine pm_e_top (y := iI 32) (by decide +kernel) ?_
      show pm_E _ _ _ 24 [(0, .ref 18), (1, .int (iI x)), (2, .int (iI u))] [.int (iI 32), .int (iI (s 0))] _ _ _ _
      refine pm_c_eq (t := 48) pm_a174_24 rfl ⟨by omega, by omega⟩ ⟨by omega, by omega⟩ (fun h_3 => ?_) (fun h_3 => ?_)
      · skip
        show pm_E _ _ _ 48 [(0, .ref 18), (1, .int (iI x)), (2, .int (iI u))] [] _ _ _ _
        refine pm_e_sim pm_a174_48 rfl ?_
        refine pm_e_top (y := iI (-3)) (by decide +kernel) ?_
        show pm_E _ _ _ 50 [(0, .ref 18), (1, .int (iI x)), (2, .int (iI u))] [.int (iI (-3))] _ _ _ _
        refine pm_e_ret pm_a174_50 rfl rfl rfl rfl rfl rfl rfl rfl ?_
        exact kf (by omega)
      · skip
        show pm_E _ _ _ 27 [(0, .ref 18), (1, .int (iI x)), (2, .int (iI u))] [] _ _ _ _
        refine pm_e_sim pm_a174_27 rfl ?_
        show pm_E _ _ _ 28 [(0, .ref 18), (1, .int (iI x)), (2, .int (iI u))] [.ref 18] _ _ _ _
        refine pm_i_get pm_a174_28 rfl (mh_get (j := 0) hA rfl) rfl ?_
        show pm_E _ _ _ 31 [(0, .ref 18), (1, .int (iI x)), (2, .int (iI u))] [.ref 19] _ _ _ _
        refine pm_e_sim pm_a174_31 rfl ?_
        show pm_E _ _ _ 32 [(0, .ref 18), (1, .int (iI x)), (2, .int (iI u))] [.int (iI x), .ref 19] _ _ _ _
        have hz32 := hsz x (by omega) (by omega)
        refine pm_i_ald pm_a174_32 (mh_get (j := 1) hA rfl) (by omega) (by omega) ⟨by omega, by omega⟩ ?_
        show pm_E _ _ _ 33 [(0, .ref 18), (1, .int (iI x)), (2, .int (iI u))] [.int (iI ((a 1) (x)))] _ _ _ _
        refine pm_e_sim pm_a174_33 rfl ?_
        show pm_E _ _ _ 34 [(0, .ref 18), (1, .int (iI x)), (2, .int (iI u))] [.ref 18, .int (iI ((a 1) (x)))] _ _ _ _
        refine pm_i_get pm_a174_34 rfl (mh_get (j := 0) hA rfl) rfl ?_
        show pm_E _ _ _ 37 [(0, .ref 18), (1, .int (iI x)), (2, .int (iI u))] [.ref 19, .int (iI ((a 1) (x)))] _ _ _ _
        refine pm_e_sim pm_a174_37 rfl ?_
        show pm_E _ _ _ 38 [(0, .ref 18), (1, .int (iI x)), (2, .int (iI u))] [.int (iI u), .ref 19, .int (iI ((a 1) (x)))] _ _ _ _
        have hz38 := hsz u (by omega) (by omega)
        refine pm_i_ald pm_a174_38 (mh_get (j := 1) hA rfl) (by omega) (by omega) ⟨by omega, by omega⟩ ?_
        show pm_E _ _ _ 39 [(0, .ref 18), (1, .int (iI x)), (2, .int (iI u))] [.int (iI ((a 1) (u))), .int (iI ((a 1) (x)))] _ _ _ _
        refine pm_e_sim pm_a174_39 rfl ?_
        refine pm_e_top (y := iI ((a 1) (x) + ((a 1) (u)))) (iI_add _ _) ?_
        show pm_E _ _ _ 40 [(0, .ref 18), (1, .int (iI x)), (2, .int (iI u))] [.int (iI ((a 1) (x) + ((a 1) (u))))] _ _ _ _
        refine pm_e_sim pm_a174_40 rfl ?_
        refine pm_e_top (y := iI 1) (by decide +kernel) ?_
        show pm_E _ _ _ 41 [(0, .ref 18), (1, .int (iI x)), (2, .int (iI u))] [.int (iI 1), .int (iI ((a 1) (x) + ((a 1) (u))))] _ _ _ _
        refine pm_e_sim pm_a174_41 rfl ?_
        refine pm_e_top (y := iI ((a 1) (x) + ((a 1) (u)) + 1)) (iI_add _ _) ?_
        show pm_E _ _ _ 42 [(0, .ref 18), (1, .int (iI x)), (2, .int (iI u))] [.int (iI ((a 1) (x) + ((a 1) (u)) + 1))] _ _ _ _
        refine pm_e_sim pm_a174_42 rfl ?_
        refine pm_e_top (y := iI 500) (by decide +kernel) ?_
        show pm_E _ _ _ 45 [(0, .ref 18), (1, .int (iI x)), (2, .int (iI u))] [.int (iI 500), .int (iI ((a 1) (x) + ((a 1) (u)) + 1))] _ _ _ _
        refine pm_c_le (t := 51) pm_a174_45 rfl ⟨by omega, by omega⟩ ⟨by omega, by omega⟩ (fun h_4 => ?_) (fun h_4 => ?_)
        · skip
          show pm_E _ _ _ 51 [(0, .ref 18), (1, .int (iI x)), (2, .int (iI u))] [] _ _ _ _
          refine pm_e_sim pm_a174_51 rfl ?_
          show pm_E _ _ _ 52 [(0, .ref 18), (1, .int (iI x)), (2, .int (iI u))] [.ref 18] _ _ _ _
          refine pm_e_sim pm_a174_52 rfl ?_
          refine pm_e_top (y := iI 0) (by decide +kernel) ?_
          show pm_E _ _ _ 53 [(0, .ref 18), (1, .int (iI x)), (2, .int (iI u))] [.int (iI 0), .ref 18] _ _ _ _
          refine pm_i_put pm_a174_53 rfl (mh_get (j := 0) hA rfl) rfl (Nat.le_of_ble_eq_true rfl) (Or.inl rfl) (mw_6 hA _) ?_
          show pm_E _ _ _ 56 [(0, .ref 18), (1, .int (iI x)), (2, .int (iI u))] [] _ _ _ _
          refine pm_e_sim pm_a174_56 rfl ?_
          show pm_E _ _ _ 57 [(0, .ref 18), (1, .int (iI x)), (2, .int (iI u))] [.ref 18] _ _ _ _
          refine pm_e_sim pm_a174_57 rfl ?_
          refine pm_e_top (y := iI 0) (by decide +kernel) ?_
          show pm_E _ _ _ 58 [(0, .ref 18), (1, .int (iI x)), (2, .int (iI u))] [.int (iI 0), .ref 18] _ _ _ _
          refine pm_i_callv (k := 18) (T2 := pm_mm157) pm_a174_58 rfl rfl rfl (mh_get (j := 0) hA rfl) ⟨Nat.le_of_ble_eq_true rfl, Nat.le_of_ble_eq_true rfl, rfl, by decide +kernel⟩ ?_
          show pm_E none _ _ 0 [(0, .ref 18), (1, .int (iI 0))] [] _ _ _ _
          refine M_lay hA (show (0 : Int) ≤ 0 by omega) (show 0 < 12000 by omega) ?_
          show pm_E _ _ _ 61 [(0, .ref 18), (1, .int (iI x)), (2, .int (iI u))] [] _ _ _ _
          refine pm_e_sim pm_a174_61 rfl ?_
          refine pm_e_top (y := iI 0) (by decide +kernel) ?_
          show pm_E _ _ _ 62 [(0, .ref 18), (1, .int (iI x)), (2, .int (iI u))] [.int (iI 0)] _ _ _ _
          refine pm_e_sim pm_a174_62 rfl ?_
          show pm_E _ _ _ 63 [(0, .ref 18), (1, .int (iI x)), (2, .int (iI u)), (3, .int (iI 0))] [] _ _ _ _
          obtain ⟨tlx, ftx, ttx⟩ := hok.2.2 x (by omega) (by omega)
          have tpx := tL_pos ttx
          obtain ⟨tsx, tgx⟩ := hsh.2 x (by omega) (by omega)
          obtain ⟨tlu, ftu, ttu⟩ := hok.2.2 u (by omega) (by omega)
          have tpu := tL_pos ttu
          obtain ⟨tsu, tgu⟩ := hsh.2 u (by omega) (by omega)
          refine M_apply_1 (s0 := s) (a0 := a) hA (by omega) (by omega) (by omega) (by omega) (hin 2) (a 1 x + 1).toNat 0 [0] _ _ (by omega) (by omega) (fun j hj => by simp [updS, hj]) (fun j hj => by simp [updA, hj]) rfl (show (1 : Int) + _ ≤ _ by omega) (by show [updI (a 4) 0 0 0] = [0]; rw [updI_s]) (updI_in (hin 4) (by decide)) ?_ (by omega)
          intro s1 a1 l1 hS1 hA1 g61 gg1 i1
          rw [show (a 1 x - 0).toNat = (T x).length by omega, show 500 * x + 0 = 500 * x by omega, tgx] at gg1
          have gl1 : l1.length = 1 + (T x).length := by rw [gg1]; simp only [List.length_append, List.length_cons, List.length_nil]
          refine pm_e_sim pm_a174_95 rfl ?_
          refine pm_e_top (y := iI 0) (by decide +kernel) ?_
          show pm_E _ _ _ 96 [(0, .ref 18), (1, .int (iI x)), (2, .int (iI u)), (3, .int (iI i1))] [.int (iI 0)] _ _ _ _
          refine pm_e_sim pm_a174_96 rfl ?_
          show pm_E _ _ _ 97 [(0, .ref 18), (1, .int (iI x)), (2, .int (iI u)), (3, .int (iI 0))] [] _ _ _ _
          refine M_apply_2 (s0 := s) (a0 := a) hA (by omega) (by omega) (by omega) (by omega) (hin 2) (a 1 u + 1).toNat 0 l1 _ _ (by omega) (by omega) hS1 hA1 g61.1 (by omega) g61.2.1 g61.2.2 ?_ (by omega)
          intro s2 a2 l2 hS2 hA2 g62 gg2 i2
          rw [show (a 1 u - 0).toNat = (T u).length by omega, show 500 * u + 0 = 500 * u by omega, tgu, gg1] at gg2
          have gl2 : l2.length = 1 + (T x).length + (T u).length := by rw [gg2]; simp only [List.length_append, List.length_cons, List.length_nil]
          have s20 : s2 0 = n := by rw [hS2 0 (by omega)]; exact s0
          have s26 := g62.1
          refine pm_e_sim pm_a174_129 rfl ?_
          show pm_E _ _ _ 130 [(0, .ref 18), (1, .int (iI x)), (2, .int (iI u)), (3, .int (iI i2))] [.ref 18] _ _ _ _
          refine pm_e_sim pm_a174_130 rfl ?_
          show pm_E _ _ _ 131 [(0, .ref 18), (1, .int (iI x)), (2, .int (iI u)), (3, .int (iI i2))] [.ref 18, .ref 18] _ _ _ _
          refine pm_i_get pm_a174_131 rfl (mh_get (j := 0) hA rfl) rfl ?_
          show pm_E _ _ _ 134 [(0, .ref 18), (1, .int (iI x)), (2, .int (iI u)), (3, .int (iI i2))] [.int (iI (s2 0)), .ref 18] _ _ _ _
          refine pm_i_callv (k := 18) (T2 := pm_mm162) pm_a174_134 rfl rfl rfl (mh_get (j := 0) hA rfl) ⟨Nat.le_of_ble_eq_true rfl, Nat.le_of_ble_eq_true rfl, rfl, by decide +kernel⟩ ?_
          show pm_E none _ _ 0 [(0, .ref 18), (1, .int (iI (s2 0)))] [] _ _ _ _
          have e12 : a2 1 = a 1 := hA2 1 (by omega)
          have e22 : a2 2 = a 2 := hA2 2 (by omega)
          have e32 : a2 3 = a 3 := hA2 3 (by omega)
          have l5 : l2.length ≤ 500 := by rw [gg2]; simp only [List.length_append, List.length_cons, List.length_nil]; omega
          refine M_keep hA (by omega) (by omega) (by omega) (by omega) (fun a3 e3 => ?_)
          have hs3 : ∀ t, 0 ≤ t → t < n + 1 → a3 1 t = (upT T n l2 t).length ∧ rg (a3 2) (upT T n l2 t).length (500 * t) = upT T n l2 t := by
            rw [e3, s20]
            exact sh_keep (by omega) (fun t z y ne => by rw [e12, e22]; exact ⟨(okk t z (by omega)).1, hsh.2 t z (by omega)⟩) l5 g62.2.1 g62.1
          show pm_E _ _ _ 137 [(0, .ref 18), (1, .int (iI x)), (2, .int (iI u)), (3, .int (iI i2))] [] _ _ _ _
          refine pm_e_sim pm_a174_137 rfl ?_
          show pm_E _ _ _ 138 [(0, .ref 18), (1, .int (iI x)), (2, .int (iI u)), (3, .int (iI i2))] [.ref 18] _ _ _ _
          refine pm_e_sim pm_a174_138 rfl ?_
          show pm_E _ _ _ 139 [(0, .ref 18), (1, .int (iI x)), (2, .int (iI u)), (3, .int (iI i2))] [.ref 18, .ref 18] _ _ _ _
          refine pm_i_get pm_a174_139 rfl (mh_get (j := 0) hA rfl) rfl ?_
          show pm_E _ _ _ 142 [(0, .ref 18), (1, .int (iI x)), (2, .int (iI u)), (3, .int (iI i2))] [.int (iI (s2 0)), .ref 18] _ _ _ _
          refine pm_e_sim pm_a174_142 rfl ?_
          refine pm_e_top (y := iI 1) (by decide +kernel) ?_
          show pm_E _ _ _ 143 [(0, .ref 18), (1, .int (iI x)), (2, .int (iI u)), (3, .int (iI i2))] [.int (iI 1), .int (iI (s2 0)), .ref 18] _ _ _ _
          refine pm_e_sim pm_a174_143 rfl ?_
          refine pm_e_top (y := iI (s2 0 + 1)) (iI_add _ _) ?_
          show pm_E _ _ _ 144 [(0, .ref 18), (1, .int (iI x)), (2, .int (iI u)), (3, .int (iI i2))] [.int (iI (s2 0 + 1)), .ref 18] _ _ _ _
          refine pm_i_put pm_a174_144 rfl (mh_get (j := 0) hA rfl) rfl (Nat.le_of_ble_eq_true rfl) (Or.inl rfl) (mw_0 hA _) ?_
          show pm_E _ _ _ 147 [(0, .ref 18), (1, .int (iI x)), (2, .int (iI u)), (3, .int (iI i2))] [] _ _ _ _
          refine pm_e_sim pm_a174_147 rfl ?_
          show pm_E _ _ _ 148 [(0, .ref 18), (1, .int (iI x)), (2, .int (iI u)), (3, .int (iI i2))] [.ref 18] _ _ _ _
          refine pm_i_get pm_a174_148 rfl (mh_get (j := 0) hA rfl) rfl ?_
          show pm_E _ _ _ 151 [(0, .ref 18), (1, .int (iI x)), (2, .int (iI u)), (3, .int (iI i2))] [.int (iI (s2 0 + 1))] _ _ _ _
          refine pm_e_sim pm_a174_151 rfl ?_
          refine pm_e_top (y := iI 1) (by decide +kernel) ?_
          show pm_E _ _ _ 152 [(0, .ref 18), (1, .int (iI x)), (2, .int (iI u)), (3, .int (iI i2))] [.int (iI 1), .int (iI (s2 0 + 1))] _ _ _ _
          refine pm_e_sim pm_a174_152 rfl ?_
          refine pm_e_top (y := iI (s2 0 + 1 - 1)) (iI_sub _ _) ?_
          show pm_E _ _ _ 153 [(0, .ref 18), (1, .int (iI x)), (2, .int (iI u)), (3, .int (iI i2))] [.int (iI (s2 0 + 1 - 1))] _ _ _ _
          refine pm_e_ret pm_a174_153 rfl rfl rfl rfl rfl rfl rfl rfl ?_
          refine pm_q_v (y := iI n) (by rw [s20]; exact congrArg iI (by omega)) ?_
          rw [gg2] at hs3
          refine k (by omega) (by omega) (by omega) _ a3 ⟨?_, hs3⟩ ?_ ?_
          · show s2 0 + 1 = n + 1; omega
          · exact ⟨hS2 4 (by omega), hS2 45 (by omega), hS2 30 (by omega), hS2 31 (by omega), hS2 13 (by omega)⟩
          · rw [e3, ← e32]; rfl
        · skip
          show pm_E _ _ _ 48 [(0, .ref 18), (1, .int (iI x)), (2, .int (iI u))] [] _ _ _ _
          refine pm_e_sim pm_a174_48 rfl ?_
          refine pm_e_top (y := iI (-3)) (by decide +kernel) ?_
          show pm_E _ _ _ 50 [(0, .ref 18), (1, .int (iI x)), (2, .int (iI u))] [.int (iI (-3))] _ _ _ _
          refine pm_e_ret pm_a174_50 rfl rfl rfl rfl rfl rfl rfl rfl ?_
          exact kf (by omega)
    · skip
      show pm_E _ _ _ 13 [(0, .ref 18), (1, .int (iI x)), (2, .int (iI u))] [.int (iI 0)] _ _ _ _
      refine pm_e_iff pm_a174_13 rfl (by decide +kernel) ?_
      show pm_E _ _ _ 16 [(0, .ref 18), (1, .int (iI x)), (2, .int (iI u))] [] _ _ _ _
      refine pm_e_sim pm_a174_16 rfl ?_
      refine pm_e_top (y := iI (-1)) (by decide +kernel) ?_
      show pm_E _ _ _ 17 [(0, .ref 18), (1, .int (iI x)), (2, .int (iI u))] [.int (iI (-1))] _ _ _ _
      refine pm_e_ret pm_a174_17 rfl rfl rfl rfl rfl rfl rfl rfl ?_
      exact kb (by omega)
  · skip
    show pm_E _ _ _ 5 [(0, .ref 18), (1, .int (iI x)), (2, .int (iI u))] [.int (iI 0)] _ _ _ _
    refine pm_e_ift pm_a174_5 rfl (by decide +kernel) ?_
    show pm_E _ _ _ 16 [(0, .ref 18), (1, .int (iI x)), (2, .int (iI u))] [] _ _ _ _
    refine pm_e_sim pm_a174_16 rfl ?_
    refine pm_e_top (y := iI (-1)) (by decide +kernel) ?_
    show pm_E _ _ _ 17 [(0, .ref 18), (1, .int (iI x)), (2, .int (iI u))] [.int (iI (-1))] _ _ _ _
    refine pm_e_ret pm_a174_17 rfl rfl rfl rfl rfl rfl rfl rfl ?_
    exact kb (by omega)
set_option maxHeartbeats 4000000 in
set_option maxRecDepth 100000 in
theorem M_same_l {d : Nat} {A B : List va_E} {s : Nat → Int} {vl : Int64} {a : Nat → Int → Int} {nm : Nat → Int64} {Q : Option Value → List va_E → Nat → Nat → Prop} {x u : Int} (hA : A.length = 18) (h2 : ∀ j, in32 (a 2 j)) (hx0 : 0 ≤ x) (hx1 : x < 32) (hu0 : 0 ≤ u) (hu1 : u < 32) (hz0 : 0 ≤ a 1 x) (hz1 : a 1 x ≤ 500) (k1 : (a 1 x = a 1 u ∧ ∀ q, 0 ≤ q → q < a 1 x → a 2 (500 * x + q) = a 2 (500 * u + q)) → Q (some (.int (iI 1))) (mh A s vl a nm B) 0 0) (k0 : ¬ (a 1 x = a 1 u ∧ ∀ q, 0 ≤ q → q < a 1 x → a 2 (500 * x + q) = a 2 (500 * u + q)) → Q (some (.int (iI 0))) (mh A s vl a nm B) 0 0) : ∀ (f : Nat) (i b : Int), 0 ≤ i → i ≤ a 1 x → ((b = 1 ∧ a 1 x = a 1 u ∧ ∀ q, 0 ≤ q → q < i → a 2 (500 * x + q) = a 2 (500 * u + q)) ∨ (b = 0 ∧ ¬ (a 1 x = a 1 u ∧ ∀ q, 0 ≤ q → q < a 1 x → a 2 (500 * x + q) = a 2 (500 * u + q)))) → a 1 x - i < (f : Int) → pm_E none (d + 2) pm_mm176 42 [(0, .ref 18), (1, .int (iI x)), (2, .int (iI u)), (3, .int (iI b)), (4, .int (iI i))] [] (mh A s vl a nm B) 0 0 Q := by
  intro f
  induction f with
  | zero =>
    intro i b h0 h1 hb hf
    exfalso; omega
  | succ f ih =>
    intro i b h0 h1 hb hf
    have hb9 : 0 ≤ b ∧ b ≤ 1 := by rcases hb with ⟨z, _⟩ | ⟨z, _⟩ <;> omega
    refine pm_e_sim pm_a176_42 rfl ?_
    show pm_E _ _ _ 44 [(0, .ref 18), (1, .int (iI x)), (2, .int (iI u)), (3, .int (iI b)), (4, .int (iI i))] [.int (iI i)] _ _ _ _
    refine pm_e_sim pm_a176_44 rfl ?_
    show pm_E _ _ _ 45 [(0, .ref 18), (1, .int (iI x)), (2, .int (iI u)), (3, .int (iI b)), (4, .int (iI i))] [.ref 18, .int (iI i)] _ _ _ _
    refine pm_i_get pm_a176_45 rfl (mh_get (j := 0) hA rfl) rfl ?_
    show pm_E _ _ _ 48 [(0, .ref 18), (1, .int (iI x)), (2, .int (iI u)), (3, .int (iI b)), (4, .int (iI i))] [.ref 19, .int (iI i)] _ _ _ _
    refine pm_e_sim pm_a176_48 rfl ?_
    show pm_E _ _ _ 49 [(0, .ref 18), (1, .int (iI x)), (2, .int (iI u)), (3, .int (iI b)), (4, .int (iI i))] [.int (iI x), .ref 19, .int (iI i)] _ _ _ _
    refine pm_i_ald pm_a176_49 (mh_get (j := 1) hA rfl) (by omega) (by omega) ⟨by omega, by omega⟩ ?_
    show pm_E _ _ _ 50 [(0, .ref 18), (1, .int (iI x)), (2, .int (iI u)), (3, .int (iI b)), (4, .int (iI i))] [.int (iI ((a 1) (x))), .int (iI i)] _ _ _ _
    refine pm_c_ge (t := 98) pm_a176_50 rfl ⟨by omega, by omega⟩ ⟨by omega, by omega⟩ (fun h_1 => ?_) (fun h_1 => ?_)
    · skip
      show pm_E _ _ _ 98 [(0, .ref 18), (1, .int (iI x)), (2, .int (iI u)), (3, .int (iI b)), (4, .int (iI i))] [] _ _ _ _
      refine pm_e_sim pm_a176_98 rfl ?_
      show pm_E _ _ _ 99 [(0, .ref 18), (1, .int (iI x)), (2, .int (iI u)), (3, .int (iI b)), (4, .int (iI i))] [.int (iI b)] _ _ _ _
      refine pm_i_eq (t := 106) pm_a176_99 rfl ⟨by omega, by omega⟩ (fun h_2 => ?_) (fun h_2 => ?_)
      · skip
        show pm_E _ _ _ 106 [(0, .ref 18), (1, .int (iI x)), (2, .int (iI u)), (3, .int (iI b)), (4, .int (iI i))] [] _ _ _ _
        refine pm_e_sim pm_a176_106 rfl ?_
        refine pm_e_top (y := iI 0) (by decide +kernel) ?_
        show pm_E _ _ _ 107 [(0, .ref 18), (1, .int (iI x)), (2, .int (iI u)), (3, .int (iI b)), (4, .int (iI i))] [.int (iI 0)] _ _ _ _
        refine pm_e_ret pm_a176_107 rfl rfl rfl rfl rfl rfl rfl rfl ?_
        rcases hb with ⟨_, e, hi⟩ | ⟨z, hn⟩
        · exfalso; omega
        · exact k0 hn
      · skip
        show pm_E _ _ _ 102 [(0, .ref 18), (1, .int (iI x)), (2, .int (iI u)), (3, .int (iI b)), (4, .int (iI i))] [] _ _ _ _
        refine pm_e_sim pm_a176_102 rfl ?_
        refine pm_e_top (y := iI 1) (by decide +kernel) ?_
        show pm_E _ _ _ 103 [(0, .ref 18), (1, .int (iI x)), (2, .int (iI u)), (3, .int (iI b)), (4, .int (iI i))] [.int (iI 1)] _ _ _ _
        refine pm_e_goto pm_a176_103 rfl ?_
        show pm_E _ _ _ 107 [(0, .ref 18), (1, .int (iI x)), (2, .int (iI u)), (3, .int (iI b)), (4, .int (iI i))] [.int (iI 1)] _ _ _ _
        refine pm_e_ret pm_a176_107 rfl rfl rfl rfl rfl rfl rfl rfl ?_
        rcases hb with ⟨_, e, hi⟩ | ⟨z, hn⟩
        · exact k1 ⟨e, fun q q0 q1 => hi q q0 (by omega)⟩
        · exfalso; omega
    · skip
      show pm_E _ _ _ 53 [(0, .ref 18), (1, .int (iI x)), (2, .int (iI u)), (3, .int (iI b)), (4, .int (iI i))] [] _ _ _ _
      refine pm_e_sim pm_a176_53 rfl ?_
      show pm_E _ _ _ 54 [(0, .ref 18), (1, .int (iI x)), (2, .int (iI u)), (3, .int (iI b)), (4, .int (iI i))] [.int (iI b)] _ _ _ _
      refine pm_i_eq (t := 98) pm_a176_54 rfl ⟨by omega, by omega⟩ (fun h_3 => ?_) (fun h_3 => ?_)
      · skip
        show pm_E _ _ _ 98 [(0, .ref 18), (1, .int (iI x)), (2, .int (iI u)), (3, .int (iI b)), (4, .int (iI i))] [] _ _ _ _
        refine pm_e_sim pm_a176_98 rfl ?_
        show pm_E _ _ _ 99 [(0, .ref 18), (1, .int (iI x)), (2, .int (iI u)), (3, .int (iI b)), (4, .int (iI i))] [.int (iI b)] _ _ _ _
        refine pm_i_eq (t := 106) pm_a176_99 rfl ⟨by omega, by omega⟩ (fun h_4 => ?_) (fun h_4 => ?_)
        · skip
          show pm_E _ _ _ 106 [(0, .ref 18), (1, .int (iI x)), (2, .int (iI u)), (3, .int (iI b)), (4, .int (iI i))] [] _ _ _ _
          refine pm_e_sim pm_a176_106 rfl ?_
          refine pm_e_top (y := iI 0) (by decide +kernel) ?_
          show pm_E _ _ _ 107 [(0, .ref 18), (1, .int (iI x)), (2, .int (iI u)), (3, .int (iI b)), (4, .int (iI i))] [.int (iI 0)] _ _ _ _
          refine pm_e_ret pm_a176_107 rfl rfl rfl rfl rfl rfl rfl rfl ?_
          rcases hb with ⟨_, e, hi⟩ | ⟨z, hn⟩
          · exfalso; omega
          · exact k0 hn
        · skip
          show pm_E _ _ _ 102 [(0, .ref 18), (1, .int (iI x)), (2, .int (iI u)), (3, .int (iI b)), (4, .int (iI i))] [] _ _ _ _
          refine pm_e_sim pm_a176_102 rfl ?_
          refine pm_e_top (y := iI 1) (by decide +kernel) ?_
          show pm_E _ _ _ 103 [(0, .ref 18), (1, .int (iI x)), (2, .int (iI u)), (3, .int (iI b)), (4, .int (iI i))] [.int (iI 1)] _ _ _ _
          refine pm_e_goto pm_a176_103 rfl ?_
          show pm_E _ _ _ 107 [(0, .ref 18), (1, .int (iI x)), (2, .int (iI u)), (3, .int (iI b)), (4, .int (iI i))] [.int (iI 1)] _ _ _ _
          refine pm_e_ret pm_a176_107 rfl rfl rfl rfl rfl rfl rfl rfl ?_
          rcases hb with ⟨_, e, hi⟩ | ⟨z, hn⟩
          · exact k1 ⟨e, fun q q0 q1 => hi q q0 (by omega)⟩
          · exfalso; omega
      · skip
        show pm_E _ _ _ 57 [(0, .ref 18), (1, .int (iI x)), (2, .int (iI u)), (3, .int (iI b)), (4, .int (iI i))] [] _ _ _ _
        refine pm_e_sim pm_a176_57 rfl ?_
        show pm_E _ _ _ 58 [(0, .ref 18), (1, .int (iI x)), (2, .int (iI u)), (3, .int (iI b)), (4, .int (iI i))] [.ref 18] _ _ _ _
        refine pm_i_get pm_a176_58 rfl (mh_get (j := 0) hA rfl) rfl ?_
        show pm_E _ _ _ 61 [(0, .ref 18), (1, .int (iI x)), (2, .int (iI u)), (3, .int (iI b)), (4, .int (iI i))] [.ref 20] _ _ _ _
        refine pm_e_sim pm_a176_61 rfl ?_
        refine pm_e_top (y := iI 500) (by decide +kernel) ?_
        show pm_E _ _ _ 64 [(0, .ref 18), (1, .int (iI x)), (2, .int (iI u)), (3, .int (iI b)), (4, .int (iI i))] [.int (iI 500), .ref 20] _ _ _ _
        refine pm_e_sim pm_a176_64 rfl ?_
        show pm_E _ _ _ 65 [(0, .ref 18), (1, .int (iI x)), (2, .int (iI u)), (3, .int (iI b)), (4, .int (iI i))] [.int (iI x), .int (iI 500), .ref 20] _ _ _ _
        refine pm_e_sim pm_a176_65 rfl ?_
        refine pm_e_top (y := iI (500 * x)) (iI_mul _ _) ?_
        show pm_E _ _ _ 66 [(0, .ref 18), (1, .int (iI x)), (2, .int (iI u)), (3, .int (iI b)), (4, .int (iI i))] [.int (iI (500 * x)), .ref 20] _ _ _ _
        refine pm_e_sim pm_a176_66 rfl ?_
        show pm_E _ _ _ 68 [(0, .ref 18), (1, .int (iI x)), (2, .int (iI u)), (3, .int (iI b)), (4, .int (iI i))] [.int (iI i), .int (iI (500 * x)), .ref 20] _ _ _ _
        refine pm_e_sim pm_a176_68 rfl ?_
        refine pm_e_top (y := iI (500 * x + i)) (iI_add _ _) ?_
        show pm_E _ _ _ 69 [(0, .ref 18), (1, .int (iI x)), (2, .int (iI u)), (3, .int (iI b)), (4, .int (iI i))] [.int (iI (500 * x + i)), .ref 20] _ _ _ _
        refine pm_i_ald pm_a176_69 (mh_get (j := 2) hA rfl) (by omega) (by omega) ⟨by omega, by omega⟩ ?_
        show pm_E _ _ _ 70 [(0, .ref 18), (1, .int (iI x)), (2, .int (iI u)), (3, .int (iI b)), (4, .int (iI i))] [.int (iI ((a 2) (500 * x + i)))] _ _ _ _
        refine pm_e_sim pm_a176_70 rfl ?_
        show pm_E _ _ _ 71 [(0, .ref 18), (1, .int (iI x)), (2, .int (iI u)), (3, .int (iI b)), (4, .int (iI i))] [.ref 18, .int (iI ((a 2) (500 * x + i)))] _ _ _ _
        refine pm_i_get pm_a176_71 rfl (mh_get (j := 0) hA rfl) rfl ?_
        show pm_E _ _ _ 74 [(0, .ref 18), (1, .int (iI x)), (2, .int (iI u)), (3, .int (iI b)), (4, .int (iI i))] [.ref 20, .int (iI ((a 2) (500 * x + i)))] _ _ _ _
        refine pm_e_sim pm_a176_74 rfl ?_
        refine pm_e_top (y := iI 500) (by decide +kernel) ?_
        show pm_E _ _ _ 77 [(0, .ref 18), (1, .int (iI x)), (2, .int (iI u)), (3, .int (iI b)), (4, .int (iI i))] [.int (iI 500), .ref 20, .int (iI ((a 2) (500 * x + i)))] _ _ _ _
        refine pm_e_sim pm_a176_77 rfl ?_
        show pm_E _ _ _ 78 [(0, .ref 18), (1, .int (iI x)), (2, .int (iI u)), (3, .int (iI b)), (4, .int (iI i))] [.int (iI u), .int (iI 500), .ref 20, .int (iI ((a 2) (500 * x + i)))] _ _ _ _
        refine pm_e_sim pm_a176_78 rfl ?_
        refine pm_e_top (y := iI (500 * u)) (iI_mul _ _) ?_
        show pm_E _ _ _ 79 [(0, .ref 18), (1, .int (iI x)), (2, .int (iI u)), (3, .int (iI b)), (4, .int (iI i))] [.int (iI (500 * u)), .ref 20, .int (iI ((a 2) (500 * x + i)))] _ _ _ _
        refine pm_e_sim pm_a176_79 rfl ?_
        show pm_E _ _ _ 81 [(0, .ref 18), (1, .int (iI x)), (2, .int (iI u)), (3, .int (iI b)), (4, .int (iI i))] [.int (iI i), .int (iI (500 * u)), .ref 20, .int (iI ((a 2) (500 * x + i)))] _ _ _ _
        refine pm_e_sim pm_a176_81 rfl ?_
        refine pm_e_top (y := iI (500 * u + i)) (iI_add _ _) ?_
        show pm_E _ _ _ 82 [(0, .ref 18), (1, .int (iI x)), (2, .int (iI u)), (3, .int (iI b)), (4, .int (iI i))] [.int (iI (500 * u + i)), .ref 20, .int (iI ((a 2) (500 * x + i)))] _ _ _ _
        refine pm_i_ald pm_a176_82 (mh_get (j := 2) hA rfl) (by omega) (by omega) ⟨by omega, by omega⟩ ?_
        show pm_E _ _ _ 83 [(0, .ref 18), (1, .int (iI x)), (2, .int (iI u)), (3, .int (iI b)), (4, .int (iI i))] [.int (iI ((a 2) (500 * u + i))), .int (iI ((a 2) (500 * x + i)))] _ _ _ _
        have v1 := h2 (500 * x + i)
        have v2 := h2 (500 * u + i)
        refine pm_c_ne (t := 90) pm_a176_83 rfl ⟨by omega, by omega⟩ ⟨by omega, by omega⟩ (fun h_5 => ?_) (fun h_5 => ?_)
        · skip
          show pm_E _ _ _ 90 [(0, .ref 18), (1, .int (iI x)), (2, .int (iI u)), (3, .int (iI b)), (4, .int (iI i))] [] _ _ _ _
          refine pm_e_sim pm_a176_90 rfl ?_
          refine pm_e_top (y := iI 0) (by decide +kernel) ?_
          show pm_E _ _ _ 91 [(0, .ref 18), (1, .int (iI x)), (2, .int (iI u)), (3, .int (iI b)), (4, .int (iI i))] [.int (iI 0)] _ _ _ _
          refine pm_e_sim pm_a176_91 rfl ?_
          show pm_E _ _ _ 92 [(0, .ref 18), (1, .int (iI x)), (2, .int (iI u)), (3, .int (iI 0)), (4, .int (iI i))] [] _ _ _ _
          refine pm_e_inc (y := iI (i + 1)) pm_a176_92 rfl (iI_add _ _) (by decide +kernel) rfl ?_
          show pm_E _ _ _ 95 [(0, .ref 18), (1, .int (iI x)), (2, .int (iI u)), (3, .int (iI 0)), (4, .int (iI (i + 1)))] [] _ _ _ _
          refine pm_e_goto pm_a176_95 rfl ?_
          show pm_E _ _ _ 42 [(0, .ref 18), (1, .int (iI x)), (2, .int (iI u)), (3, .int (iI 0)), (4, .int (iI (i + 1)))] [] _ _ _ _
          exact ih (i + 1) 0 (by omega) (by omega) (Or.inr ⟨rfl, fun hp => absurd (hp.2 i (by omega) (by omega)) (by omega)⟩) (by omega)
        · skip
          show pm_E _ _ _ 86 [(0, .ref 18), (1, .int (iI x)), (2, .int (iI u)), (3, .int (iI b)), (4, .int (iI i))] [] _ _ _ _
          refine pm_e_sim pm_a176_86 rfl ?_
          refine pm_e_top (y := iI 1) (by decide +kernel) ?_
          show pm_E _ _ _ 87 [(0, .ref 18), (1, .int (iI x)), (2, .int (iI u)), (3, .int (iI b)), (4, .int (iI i))] [.int (iI 1)] _ _ _ _
          refine pm_e_goto pm_a176_87 rfl ?_
          show pm_E _ _ _ 91 [(0, .ref 18), (1, .int (iI x)), (2, .int (iI u)), (3, .int (iI b)), (4, .int (iI i))] [.int (iI 1)] _ _ _ _
          refine pm_e_sim pm_a176_91 rfl ?_
          show pm_E _ _ _ 92 [(0, .ref 18), (1, .int (iI x)), (2, .int (iI u)), (3, .int (iI 1)), (4, .int (iI i))] [] _ _ _ _
          refine pm_e_inc (y := iI (i + 1)) pm_a176_92 rfl (iI_add _ _) (by decide +kernel) rfl ?_
          show pm_E _ _ _ 95 [(0, .ref 18), (1, .int (iI x)), (2, .int (iI u)), (3, .int (iI 1)), (4, .int (iI (i + 1)))] [] _ _ _ _
          refine pm_e_goto pm_a176_95 rfl ?_
          show pm_E _ _ _ 42 [(0, .ref 18), (1, .int (iI x)), (2, .int (iI u)), (3, .int (iI 1)), (4, .int (iI (i + 1)))] [] _ _ _ _
          rcases hb with ⟨_, e, hi⟩ | ⟨z, _⟩
          · refine ih (i + 1) 1 (by omega) (by omega) (Or.inl ⟨rfl, e, fun q q0 q1 => ?_⟩) (by omega)
            by_cases hq : q = i
            · rw [hq]; omega
            · exact hi q q0 (by omega)
          · exfalso; omega
set_option maxHeartbeats 4000000 in
set_option maxRecDepth 100000 in
theorem M_same {d : Nat} {A B : List va_E} {s : Nat → Int} {vl : Int64} {a : Nat → Int → Int} {nm : Nat → Int64} {Q : Option Value → List va_E → Nat → Nat → Prop} {n x : Int} {T : Int → List Int} {u : Int} (hA : A.length = 18) (hin : ∀ i j, in32 (a i j)) (hok : okT n T) (hsh : sh s a n T) (hx : in32 x) (hu : in32 u) (kb : (x < 0 ∨ n ≤ x ∨ u < 0 ∨ n ≤ u) → Q (some (.int (iI (-1)))) (mh A s vl a nm B) 0 0) (k1 : 0 ≤ x → x < n → 0 ≤ u → u < n → (a 1 x = a 1 u ∧ ∀ q, 0 ≤ q → q < a 1 x → a 2 (500 * x + q) = a 2 (500 * u + q)) → Q (some (.int (iI 1))) (mh A s vl a nm B) 0 0) (k0 : 0 ≤ x → x < n → 0 ≤ u → u < n → ¬ (a 1 x = a 1 u ∧ ∀ q, 0 ≤ q → q < a 1 x → a 2 (500 * x + q) = a 2 (500 * u + q)) → Q (some (.int (iI 0))) (mh A s vl a nm B) 0 0) : pm_E none (d + 2) pm_mm176 0 [(0, .ref 18), (1, .int (iI x)), (2, .int (iI u))] [] (mh A s vl a nm B) 0 0 Q := by
  obtain ⟨on0, on1, okk⟩ := id hok
  have s0 := hsh.1
  have hsz : ∀ t, 0 ≤ t → t < n → 1 ≤ a 1 t ∧ a 1 t ≤ 500 := fun t z y => by have := (hsh.2 t z y).1; obtain ⟨h1, f, h2⟩ := okk t z y; have := tL_pos h2; omega
  refine pm_e_sim pm_a176_0 rfl ?_
  show pm_E _ _ _ 1 [(0, .ref 18), (1, .int (iI x)), (2, .int (iI u))] [.ref 18] _ _ _ _
  refine pm_e_sim pm_a176_1 rfl ?_
  show pm_E _ _ _ 2 [(0, .ref 18), (1, .int (iI x)), (2, .int (iI u))] [.int (iI x), .ref 18] _ _ _ _
  refine pm_i_callv (k := 18) (T2 := pm_mm165) pm_a176_2 rfl rfl rfl (mh_get (j := 0) hA rfl) ⟨Nat.le_of_ble_eq_true rfl, Nat.le_of_ble_eq_true rfl, rfl, by decide +kernel⟩ ?_
  show pm_E none _ _ 0 [(0, .ref 18), (1, .int (iI x))] [] _ _ _ _
  refine M_isTerm hA ⟨by omega, by omega⟩ (by omega) (by omega) (fun h_1 => ?_) (fun h_1 => ?_)
  · skip
    show pm_E _ _ _ 5 [(0, .ref 18), (1, .int (iI x)), (2, .int (iI u))] [.int (iI 1)] _ _ _ _
    refine pm_e_iff pm_a176_5 rfl (by decide +kernel) ?_
    show pm_E _ _ _ 8 [(0, .ref 18), (1, .int (iI x)), (2, .int (iI u))] [] _ _ _ _
    refine pm_e_sim pm_a176_8 rfl ?_
    show pm_E _ _ _ 9 [(0, .ref 18), (1, .int (iI x)), (2, .int (iI u))] [.ref 18] _ _ _ _
    refine pm_e_sim pm_a176_9 rfl ?_
    show pm_E _ _ _ 10 [(0, .ref 18), (1, .int (iI x)), (2, .int (iI u))] [.int (iI u), .ref 18] _ _ _ _
    refine pm_i_callv (k := 18) (T2 := pm_mm165) pm_a176_10 rfl rfl rfl (mh_get (j := 0) hA rfl) ⟨Nat.le_of_ble_eq_true rfl, Nat.le_of_ble_eq_true rfl, rfl, by decide +kernel⟩ ?_
    show pm_E none _ _ 0 [(0, .ref 18), (1, .int (iI u))] [] _ _ _ _
    refine M_isTerm hA ⟨by omega, by omega⟩ (by omega) (by omega) (fun h_2 => ?_) (fun h_2 => ?_)
    · skip
      show pm_E _ _ _ 13 [(0, .ref 18), (1, .int (iI x)), (2, .int (iI u))] [.int (iI 1)] _ _ _ _
      refine pm_e_ift pm_a176_13 rfl (by decide +kernel) ?_
      show pm_E _ _ _ 18 [(0, .ref 18), (1, .int (iI x)), (2, .int (iI u))] [] _ _ _ _
      refine pm_e_sim pm_a176_18 rfl ?_
      show pm_E _ _ _ 19 [(0, .ref 18), (1, .int (iI x)), (2, .int (iI u))] [.ref 18] _ _ _ _
      refine pm_i_get pm_a176_19 rfl (mh_get (j := 0) hA rfl) rfl ?_
      show pm_E _ _ _ 22 [(0, .ref 18), (1, .int (iI x)), (2, .int (iI u))] [.ref 19] _ _ _ _
      refine pm_e_sim pm_a176_22 rfl ?_
      show pm_E _ _ _ 23 [(0, .ref 18), (1, .int (iI x)), (2, .int (iI u))] [.int (iI x), .ref 19] _ _ _ _
      have hz23 := hsz x (by omega) (by omega)
      refine pm_i_ald pm_a176_23 (mh_get (j := 1) hA rfl) (by omega) (by omega) ⟨by omega, by omega⟩ ?_
      show pm_E _ _ _ 24 [(0, .ref 18), (1, .int (iI x)), (2, .int (iI u))] [.int (iI ((a 1) (x)))] _ _ _ _
      refine pm_e_sim pm_a176_24 rfl ?_
      show pm_E _ _ _ 25 [(0, .ref 18), (1, .int (iI x)), (2, .int (iI u))] [.ref 18, .int (iI ((a 1) (x)))] _ _ _ _
      refine pm_i_get pm_a176_25 rfl (mh_get (j := 0) hA rfl) rfl ?_
      show pm_E _ _ _ 28 [(0, .ref 18), (1, .int (iI x)), (2, .int (iI u))] [.ref 19, .int (iI ((a 1) (x)))] _ _ _ _
      refine pm_e_sim pm_a176_28 rfl ?_
      show pm_E _ _ _ 29 [(0, .ref 18), (1, .int (iI x)), (2, .int (iI u))] [.int (iI u), .ref 19, .int (iI ((a 1) (x)))] _ _ _ _
      have hz29 := hsz u (by omega) (by omega)
      refine pm_i_ald pm_a176_29 (mh_get (j := 1) hA rfl) (by omega) (by omega) ⟨by omega, by omega⟩ ?_
      show pm_E _ _ _ 30 [(0, .ref 18), (1, .int (iI x)), (2, .int (iI u))] [.int (iI ((a 1) (u))), .int (iI ((a 1) (x)))] _ _ _ _
      refine pm_c_ne (t := 37) pm_a176_30 rfl ⟨by omega, by omega⟩ ⟨by omega, by omega⟩ (fun h_3 => ?_) (fun h_3 => ?_)
      · skip
        show pm_E _ _ _ 37 [(0, .ref 18), (1, .int (iI x)), (2, .int (iI u))] [] _ _ _ _
        refine pm_e_sim pm_a176_37 rfl ?_
        refine pm_e_top (y := iI 0) (by decide +kernel) ?_
        show pm_E _ _ _ 38 [(0, .ref 18), (1, .int (iI x)), (2, .int (iI u))] [.int (iI 0)] _ _ _ _
        refine pm_e_sim pm_a176_38 rfl ?_
        show pm_E _ _ _ 39 [(0, .ref 18), (1, .int (iI x)), (2, .int (iI u)), (3, .int (iI 0))] [] _ _ _ _
        refine pm_e_sim pm_a176_39 rfl ?_
        refine pm_e_top (y := iI 0) (by decide +kernel) ?_
        show pm_E _ _ _ 40 [(0, .ref 18), (1, .int (iI x)), (2, .int (iI u)), (3, .int (iI 0))] [.int (iI 0)] _ _ _ _
        refine pm_e_sim pm_a176_40 rfl ?_
        show pm_E _ _ _ 42 [(0, .ref 18), (1, .int (iI x)), (2, .int (iI u)), (3, .int (iI 0)), (4, .int (iI 0))] [] _ _ _ _
        exact M_same_l hA (hin 2) (by omega) (by omega) (by omega) (by omega) (by omega) (by omega) (k1 (by omega) (by omega) (by omega) (by omega)) (k0 (by omega) (by omega) (by omega) (by omega)) (a 1 x + 1).toNat 0 _ (by omega) (by omega) (Or.inr ⟨rfl, fun hp => absurd hp.1 (by omega)⟩) (by omega)
      · skip
        show pm_E _ _ _ 33 [(0, .ref 18), (1, .int (iI x)), (2, .int (iI u))] [] _ _ _ _
        refine pm_e_sim pm_a176_33 rfl ?_
        refine pm_e_top (y := iI 1) (by decide +kernel) ?_
        show pm_E _ _ _ 34 [(0, .ref 18), (1, .int (iI x)), (2, .int (iI u))] [.int (iI 1)] _ _ _ _
        refine pm_e_goto pm_a176_34 rfl ?_
        show pm_E _ _ _ 38 [(0, .ref 18), (1, .int (iI x)), (2, .int (iI u))] [.int (iI 1)] _ _ _ _
        refine pm_e_sim pm_a176_38 rfl ?_
        show pm_E _ _ _ 39 [(0, .ref 18), (1, .int (iI x)), (2, .int (iI u)), (3, .int (iI 1))] [] _ _ _ _
        refine pm_e_sim pm_a176_39 rfl ?_
        refine pm_e_top (y := iI 0) (by decide +kernel) ?_
        show pm_E _ _ _ 40 [(0, .ref 18), (1, .int (iI x)), (2, .int (iI u)), (3, .int (iI 1))] [.int (iI 0)] _ _ _ _
        refine pm_e_sim pm_a176_40 rfl ?_
        show pm_E _ _ _ 42 [(0, .ref 18), (1, .int (iI x)), (2, .int (iI u)), (3, .int (iI 1)), (4, .int (iI 0))] [] _ _ _ _
        exact M_same_l hA (hin 2) (by omega) (by omega) (by omega) (by omega) (by omega) (by omega) (k1 (by omega) (by omega) (by omega) (by omega)) (k0 (by omega) (by omega) (by omega) (by omega)) (a 1 x + 1).toNat 0 _ (by omega) (by omega) (Or.inl ⟨rfl, by omega, fun q q0 q1 => by omega⟩) (by omega)
    · skip
      show pm_E _ _ _ 13 [(0, .ref 18), (1, .int (iI x)), (2, .int (iI u))] [.int (iI 0)] _ _ _ _
      refine pm_e_iff pm_a176_13 rfl (by decide +kernel) ?_
      show pm_E _ _ _ 16 [(0, .ref 18), (1, .int (iI x)), (2, .int (iI u))] [] _ _ _ _
      refine pm_e_sim pm_a176_16 rfl ?_
      refine pm_e_top (y := iI (-1)) (by decide +kernel) ?_
      show pm_E _ _ _ 17 [(0, .ref 18), (1, .int (iI x)), (2, .int (iI u))] [.int (iI (-1))] _ _ _ _
      refine pm_e_ret pm_a176_17 rfl rfl rfl rfl rfl rfl rfl rfl ?_
      exact kb (by omega)
  · skip
    show pm_E _ _ _ 5 [(0, .ref 18), (1, .int (iI x)), (2, .int (iI u))] [.int (iI 0)] _ _ _ _
    refine pm_e_ift pm_a176_5 rfl (by decide +kernel) ?_
    show pm_E _ _ _ 16 [(0, .ref 18), (1, .int (iI x)), (2, .int (iI u))] [] _ _ _ _
    refine pm_e_sim pm_a176_16 rfl ?_
    refine pm_e_top (y := iI (-1)) (by decide +kernel) ?_
    show pm_E _ _ _ 17 [(0, .ref 18), (1, .int (iI x)), (2, .int (iI u))] [.int (iI (-1))] _ _ _ _
    refine pm_e_ret pm_a176_17 rfl rfl rfl rfl rfl rfl rfl rfl ?_
    exact kb (by omega)
set_option maxHeartbeats 4000000 in
set_option maxRecDepth 100000 in
theorem M_numberNow_l {d : Nat} {A B : List va_E} {s : Nat → Int} {vl : Int64} {a : Nat → Int → Int} {nm : Nat → Int64} {Q : Option Value → List va_E → Nat → Nat → Prop} {b x0 lk la : Int} (hA : A.length = 18) (hr : ∀ j, in32 (a 4 j)) (h6 : 1 ≤ s 6) (h61 : s 6 ≤ 500) (hlk : (b = 0 ∧ lk = 5 ∧ la = 6) ∨ (b = 1 ∧ lk = 11 ∧ la = 10)) (hx0 : 0 ≤ x0 ∧ x0 ≤ 2) (k : ∀ r, chm (a 4) (s 6) lk la x0 r → Q (some (.int (iI r))) (mh A s vl a nm B) 0 0) : ∀ (f : Nat) (p i : Int), 0 ≤ i → p = x0 + 2 * i → (∃ f k, tm (a 4) f k p (s 6)) → (∀ j, 0 ≤ j → j < i → x0 + 2 * j + 2 < s 6 ∧ a 4 (x0 + 2 * j) = 0 ∧ a 4 (x0 + 2 * j + 1) = lk) → 600 - p < (f : Int) → pm_E none d pm_mm200 77 [(0, .ref 18), (1, .int (iI b)), (2, .int (iI p)), (3, .int (iI i))] [] (mh A s vl a nm B) 0 0 Q := by
  intro f
  induction f with
  | zero =>
    intro p i h0 h1 hT hl hf
    obtain ⟨ft, kk, ht⟩ := hT
    have hlt := tm_lt ht
    exfalso; omega
  | succ f ih =>
    intro p i h0 h1 hT hl hf
    obtain ⟨ft, kk, ht⟩ := hT
    have hlt := tm_lt ht
    refine pm_e_sim pm_a200_77 rfl ?_
    show pm_E _ _ _ 78 [(0, .ref 18), (1, .int (iI b)), (2, .int (iI p)), (3, .int (iI i))] [.int (iI p)] _ _ _ _
    refine pm_e_sim pm_a200_78 rfl ?_
    refine pm_e_top (y := iI 2) (by decide +kernel) ?_
    show pm_E _ _ _ 79 [(0, .ref 18), (1, .int (iI b)), (2, .int (iI p)), (3, .int (iI i))] [.int (iI 2), .int (iI p)] _ _ _ _
    refine pm_e_sim pm_a200_79 rfl ?_
    refine pm_e_top (y := iI (p + 2)) (iI_add _ _) ?_
    show pm_E _ _ _ 80 [(0, .ref 18), (1, .int (iI b)), (2, .int (iI p)), (3, .int (iI i))] [.int (iI (p + 2))] _ _ _ _
    refine pm_e_sim pm_a200_80 rfl ?_
    show pm_E _ _ _ 81 [(0, .ref 18), (1, .int (iI b)), (2, .int (iI p)), (3, .int (iI i))] [.ref 18, .int (iI (p + 2))] _ _ _ _
    refine pm_i_get pm_a200_81 rfl (mh_get (j := 0) hA rfl) rfl ?_
    show pm_E _ _ _ 84 [(0, .ref 18), (1, .int (iI b)), (2, .int (iI p)), (3, .int (iI i))] [.int (iI (s 6)), .int (iI (p + 2))] _ _ _ _
    refine pm_c_ge (t := 126) pm_a200_84 rfl ⟨by omega, by omega⟩ ⟨by omega, by omega⟩ (fun h_1 => ?_) (fun h_1 => ?_)
    · skip
      show pm_E _ _ _ 126 [(0, .ref 18), (1, .int (iI b)), (2, .int (iI p)), (3, .int (iI i))] [] _ _ _ _
      refine pm_e_sim pm_a200_126 rfl ?_
      show pm_E _ _ _ 127 [(0, .ref 18), (1, .int (iI b)), (2, .int (iI p)), (3, .int (iI i))] [.int (iI p)] _ _ _ _
      refine pm_e_sim pm_a200_127 rfl ?_
      show pm_E _ _ _ 128 [(0, .ref 18), (1, .int (iI b)), (2, .int (iI p)), (3, .int (iI i))] [.ref 18, .int (iI p)] _ _ _ _
      refine pm_i_get pm_a200_128 rfl (mh_get (j := 0) hA rfl) rfl ?_
      show pm_E _ _ _ 131 [(0, .ref 18), (1, .int (iI b)), (2, .int (iI p)), (3, .int (iI i))] [.int (iI (s 6)), .int (iI p)] _ _ _ _
      refine pm_e_sim pm_a200_131 rfl ?_
      refine pm_e_top (y := iI 1) (by decide +kernel) ?_
      show pm_E _ _ _ 132 [(0, .ref 18), (1, .int (iI b)), (2, .int (iI p)), (3, .int (iI i))] [.int (iI 1), .int (iI (s 6)), .int (iI p)] _ _ _ _
      refine pm_e_sim pm_a200_132 rfl ?_
      refine pm_e_top (y := iI (s 6 - 1)) (iI_sub _ _) ?_
      show pm_E _ _ _ 133 [(0, .ref 18), (1, .int (iI b)), (2, .int (iI p)), (3, .int (iI i))] [.int (iI (s 6 - 1)), .int (iI p)] _ _ _ _
      refine pm_c_ne (t := 160) pm_a200_133 rfl ⟨by omega, by omega⟩ ⟨by omega, by omega⟩ (fun h_2 => ?_) (fun h_2 => ?_)
      · skip
        show pm_E _ _ _ 160 [(0, .ref 18), (1, .int (iI b)), (2, .int (iI p)), (3, .int (iI i))] [] _ _ _ _
        refine pm_e_sim pm_a200_160 rfl ?_
        refine pm_e_top (y := iI (-4)) (by decide +kernel) ?_
        show pm_E _ _ _ 162 [(0, .ref 18), (1, .int (iI b)), (2, .int (iI p)), (3, .int (iI i))] [.int (iI (-4))] _ _ _ _
        refine pm_e_ret pm_a200_162 rfl rfl rfl rfl rfl rfl rfl rfl ?_
        refine k _ ?_
        subst h1
        exact ⟨i, h0, hl, by omega, fun ⟨z1, z2⟩ => by have := (tm_link ht z1 (by omega)).1; omega, by omega⟩
      · skip
        show pm_E _ _ _ 136 [(0, .ref 18), (1, .int (iI b)), (2, .int (iI p)), (3, .int (iI i))] [] _ _ _ _
        refine pm_e_sim pm_a200_136 rfl ?_
        show pm_E _ _ _ 137 [(0, .ref 18), (1, .int (iI b)), (2, .int (iI p)), (3, .int (iI i))] [.ref 18] _ _ _ _
        refine pm_i_get pm_a200_137 rfl (mh_get (j := 0) hA rfl) rfl ?_
        show pm_E _ _ _ 140 [(0, .ref 18), (1, .int (iI b)), (2, .int (iI p)), (3, .int (iI i))] [.ref 22] _ _ _ _
        refine pm_e_sim pm_a200_140 rfl ?_
        show pm_E _ _ _ 141 [(0, .ref 18), (1, .int (iI b)), (2, .int (iI p)), (3, .int (iI i))] [.int (iI p), .ref 22] _ _ _ _
        refine pm_i_ald pm_a200_141 (mh_get (j := 4) hA rfl) (by omega) (by omega) ⟨by omega, by omega⟩ ?_
        show pm_E _ _ _ 142 [(0, .ref 18), (1, .int (iI b)), (2, .int (iI p)), (3, .int (iI i))] [.int (iI ((a 4) (p)))] _ _ _ _
        have := hr (p)
        refine pm_e_sim pm_a200_142 rfl ?_
        show pm_E _ _ _ 143 [(0, .ref 18), (1, .int (iI b)), (2, .int (iI p)), (3, .int (iI i))] [.int (iI b), .int (iI ((a 4) (p)))] _ _ _ _
        refine pm_i_eq (t := 151) pm_a200_143 rfl ⟨by omega, by omega⟩ (fun h_3 => ?_) (fun h_3 => ?_)
        · skip
          show pm_E _ _ _ 151 [(0, .ref 18), (1, .int (iI b)), (2, .int (iI p)), (3, .int (iI i))] [.int (iI ((a 4) (p)))] _ _ _ _
          refine pm_e_sim pm_a200_151 rfl ?_
          refine pm_e_top (y := iI 6) (by decide +kernel) ?_
          show pm_E _ _ _ 153 [(0, .ref 18), (1, .int (iI b)), (2, .int (iI p)), (3, .int (iI i))] [.int (iI 6), .int (iI ((a 4) (p)))] _ _ _ _
          refine pm_c_ne (t := 160) pm_a200_153 rfl ⟨by omega, by omega⟩ ⟨by omega, by omega⟩ (fun h_4 => ?_) (fun h_4 => ?_)
          · skip
            show pm_E _ _ _ 160 [(0, .ref 18), (1, .int (iI b)), (2, .int (iI p)), (3, .int (iI i))] [] _ _ _ _
            refine pm_e_sim pm_a200_160 rfl ?_
            refine pm_e_top (y := iI (-4)) (by decide +kernel) ?_
            show pm_E _ _ _ 162 [(0, .ref 18), (1, .int (iI b)), (2, .int (iI p)), (3, .int (iI i))] [.int (iI (-4))] _ _ _ _
            refine pm_e_ret pm_a200_162 rfl rfl rfl rfl rfl rfl rfl rfl ?_
            refine k _ ?_
            subst h1
            exact ⟨i, h0, hl, by omega, fun ⟨z1, z2⟩ => by have := (tm_link ht z1 (by omega)).1; omega, by omega⟩
          · skip
            show pm_E _ _ _ 156 [(0, .ref 18), (1, .int (iI b)), (2, .int (iI p)), (3, .int (iI i))] [] _ _ _ _
            refine pm_e_sim pm_a200_156 rfl ?_
            show pm_E _ _ _ 157 [(0, .ref 18), (1, .int (iI b)), (2, .int (iI p)), (3, .int (iI i))] [.int (iI i)] _ _ _ _
            refine pm_e_goto pm_a200_157 rfl ?_
            show pm_E _ _ _ 162 [(0, .ref 18), (1, .int (iI b)), (2, .int (iI p)), (3, .int (iI i))] [.int (iI i)] _ _ _ _
            refine pm_e_ret pm_a200_162 rfl rfl rfl rfl rfl rfl rfl rfl ?_
            refine k _ ?_
            subst h1
            exact ⟨i, h0, hl, by omega, fun ⟨z1, z2⟩ => by have := (tm_link ht z1 (by omega)).1; omega, by omega⟩
        · skip
          show pm_E _ _ _ 146 [(0, .ref 18), (1, .int (iI b)), (2, .int (iI p)), (3, .int (iI i))] [.int (iI ((a 4) (p)))] _ _ _ _
          refine pm_e_sim pm_a200_146 rfl ?_
          refine pm_e_top (y := iI 10) (by decide +kernel) ?_
          show pm_E _ _ _ 148 [(0, .ref 18), (1, .int (iI b)), (2, .int (iI p)), (3, .int (iI i))] [.int (iI 10), .int (iI ((a 4) (p)))] _ _ _ _
          refine pm_e_goto pm_a200_148 rfl ?_
          show pm_E _ _ _ 153 [(0, .ref 18), (1, .int (iI b)), (2, .int (iI p)), (3, .int (iI i))] [.int (iI 10), .int (iI ((a 4) (p)))] _ _ _ _
          refine pm_c_ne (t := 160) pm_a200_153 rfl ⟨by omega, by omega⟩ ⟨by omega, by omega⟩ (fun h_5 => ?_) (fun h_5 => ?_)
          · skip
            show pm_E _ _ _ 160 [(0, .ref 18), (1, .int (iI b)), (2, .int (iI p)), (3, .int (iI i))] [] _ _ _ _
            refine pm_e_sim pm_a200_160 rfl ?_
            refine pm_e_top (y := iI (-4)) (by decide +kernel) ?_
            show pm_E _ _ _ 162 [(0, .ref 18), (1, .int (iI b)), (2, .int (iI p)), (3, .int (iI i))] [.int (iI (-4))] _ _ _ _
            refine pm_e_ret pm_a200_162 rfl rfl rfl rfl rfl rfl rfl rfl ?_
            refine k _ ?_
            subst h1
            exact ⟨i, h0, hl, by omega, fun ⟨z1, z2⟩ => by have := (tm_link ht z1 (by omega)).1; omega, by omega⟩
          · skip
            show pm_E _ _ _ 156 [(0, .ref 18), (1, .int (iI b)), (2, .int (iI p)), (3, .int (iI i))] [] _ _ _ _
            refine pm_e_sim pm_a200_156 rfl ?_
            show pm_E _ _ _ 157 [(0, .ref 18), (1, .int (iI b)), (2, .int (iI p)), (3, .int (iI i))] [.int (iI i)] _ _ _ _
            refine pm_e_goto pm_a200_157 rfl ?_
            show pm_E _ _ _ 162 [(0, .ref 18), (1, .int (iI b)), (2, .int (iI p)), (3, .int (iI i))] [.int (iI i)] _ _ _ _
            refine pm_e_ret pm_a200_162 rfl rfl rfl rfl rfl rfl rfl rfl ?_
            refine k _ ?_
            subst h1
            exact ⟨i, h0, hl, by omega, fun ⟨z1, z2⟩ => by have := (tm_link ht z1 (by omega)).1; omega, by omega⟩
    · skip
      show pm_E _ _ _ 87 [(0, .ref 18), (1, .int (iI b)), (2, .int (iI p)), (3, .int (iI i))] [] _ _ _ _
      refine pm_e_sim pm_a200_87 rfl ?_
      show pm_E _ _ _ 88 [(0, .ref 18), (1, .int (iI b)), (2, .int (iI p)), (3, .int (iI i))] [.ref 18] _ _ _ _
      refine pm_i_get pm_a200_88 rfl (mh_get (j := 0) hA rfl) rfl ?_
      show pm_E _ _ _ 91 [(0, .ref 18), (1, .int (iI b)), (2, .int (iI p)), (3, .int (iI i))] [.ref 22] _ _ _ _
      refine pm_e_sim pm_a200_91 rfl ?_
      show pm_E _ _ _ 92 [(0, .ref 18), (1, .int (iI b)), (2, .int (iI p)), (3, .int (iI i))] [.int (iI p), .ref 22] _ _ _ _
      refine pm_i_ald pm_a200_92 (mh_get (j := 4) hA rfl) (by omega) (by omega) ⟨by omega, by omega⟩ ?_
      show pm_E _ _ _ 93 [(0, .ref 18), (1, .int (iI b)), (2, .int (iI p)), (3, .int (iI i))] [.int (iI ((a 4) (p)))] _ _ _ _
      have := hr (p)
      refine pm_i_ne (t := 126) pm_a200_93 rfl ⟨by omega, by omega⟩ (fun h_6 => ?_) (fun h_6 => ?_)
      · skip
        show pm_E _ _ _ 126 [(0, .ref 18), (1, .int (iI b)), (2, .int (iI p)), (3, .int (iI i))] [] _ _ _ _
        refine pm_e_sim pm_a200_126 rfl ?_
        show pm_E _ _ _ 127 [(0, .ref 18), (1, .int (iI b)), (2, .int (iI p)), (3, .int (iI i))] [.int (iI p)] _ _ _ _
        refine pm_e_sim pm_a200_127 rfl ?_
        show pm_E _ _ _ 128 [(0, .ref 18), (1, .int (iI b)), (2, .int (iI p)), (3, .int (iI i))] [.ref 18, .int (iI p)] _ _ _ _
        refine pm_i_get pm_a200_128 rfl (mh_get (j := 0) hA rfl) rfl ?_
        show pm_E _ _ _ 131 [(0, .ref 18), (1, .int (iI b)), (2, .int (iI p)), (3, .int (iI i))] [.int (iI (s 6)), .int (iI p)] _ _ _ _
        refine pm_e_sim pm_a200_131 rfl ?_
        refine pm_e_top (y := iI 1) (by decide +kernel) ?_
        show pm_E _ _ _ 132 [(0, .ref 18), (1, .int (iI b)), (2, .int (iI p)), (3, .int (iI i))] [.int (iI 1), .int (iI (s 6)), .int (iI p)] _ _ _ _
        refine pm_e_sim pm_a200_132 rfl ?_
        refine pm_e_top (y := iI (s 6 - 1)) (iI_sub _ _) ?_
        show pm_E _ _ _ 133 [(0, .ref 18), (1, .int (iI b)), (2, .int (iI p)), (3, .int (iI i))] [.int (iI (s 6 - 1)), .int (iI p)] _ _ _ _
        refine pm_c_ne (t := 160) pm_a200_133 rfl ⟨by omega, by omega⟩ ⟨by omega, by omega⟩ (fun h_7 => ?_) (fun h_7 => ?_)
        · skip
          show pm_E _ _ _ 160 [(0, .ref 18), (1, .int (iI b)), (2, .int (iI p)), (3, .int (iI i))] [] _ _ _ _
          refine pm_e_sim pm_a200_160 rfl ?_
          refine pm_e_top (y := iI (-4)) (by decide +kernel) ?_
          show pm_E _ _ _ 162 [(0, .ref 18), (1, .int (iI b)), (2, .int (iI p)), (3, .int (iI i))] [.int (iI (-4))] _ _ _ _
          refine pm_e_ret pm_a200_162 rfl rfl rfl rfl rfl rfl rfl rfl ?_
          refine k _ ?_
          subst h1
          exact ⟨i, h0, hl, by omega, fun ⟨z1, z2⟩ => by have := (tm_link ht z1 (by omega)).1; omega, by omega⟩
        · skip
          show pm_E _ _ _ 136 [(0, .ref 18), (1, .int (iI b)), (2, .int (iI p)), (3, .int (iI i))] [] _ _ _ _
          refine pm_e_sim pm_a200_136 rfl ?_
          show pm_E _ _ _ 137 [(0, .ref 18), (1, .int (iI b)), (2, .int (iI p)), (3, .int (iI i))] [.ref 18] _ _ _ _
          refine pm_i_get pm_a200_137 rfl (mh_get (j := 0) hA rfl) rfl ?_
          show pm_E _ _ _ 140 [(0, .ref 18), (1, .int (iI b)), (2, .int (iI p)), (3, .int (iI i))] [.ref 22] _ _ _ _
          refine pm_e_sim pm_a200_140 rfl ?_
          show pm_E _ _ _ 141 [(0, .ref 18), (1, .int (iI b)), (2, .int (iI p)), (3, .int (iI i))] [.int (iI p), .ref 22] _ _ _ _
          refine pm_i_ald pm_a200_141 (mh_get (j := 4) hA rfl) (by omega) (by omega) ⟨by omega, by omega⟩ ?_
          show pm_E _ _ _ 142 [(0, .ref 18), (1, .int (iI b)), (2, .int (iI p)), (3, .int (iI i))] [.int (iI ((a 4) (p)))] _ _ _ _
          have := hr (p)
          refine pm_e_sim pm_a200_142 rfl ?_
          show pm_E _ _ _ 143 [(0, .ref 18), (1, .int (iI b)), (2, .int (iI p)), (3, .int (iI i))] [.int (iI b), .int (iI ((a 4) (p)))] _ _ _ _
          refine pm_i_eq (t := 151) pm_a200_143 rfl ⟨by omega, by omega⟩ (fun h_8 => ?_) (fun h_8 => ?_)
          · skip
            show pm_E _ _ _ 151 [(0, .ref 18), (1, .int (iI b)), (2, .int (iI p)), (3, .int (iI i))] [.int (iI ((a 4) (p)))] _ _ _ _
            refine pm_e_sim pm_a200_151 rfl ?_
            refine pm_e_top (y := iI 6) (by decide +kernel) ?_
            show pm_E _ _ _ 153 [(0, .ref 18), (1, .int (iI b)), (2, .int (iI p)), (3, .int (iI i))] [.int (iI 6), .int (iI ((a 4) (p)))] _ _ _ _
            refine pm_c_ne (t := 160) pm_a200_153 rfl ⟨by omega, by omega⟩ ⟨by omega, by omega⟩ (fun h_9 => ?_) (fun h_9 => ?_)
            · skip
              show pm_E _ _ _ 160 [(0, .ref 18), (1, .int (iI b)), (2, .int (iI p)), (3, .int (iI i))] [] _ _ _ _
              refine pm_e_sim pm_a200_160 rfl ?_
              refine pm_e_top (y := iI (-4)) (by decide +kernel) ?_
              show pm_E _ _ _ 162 [(0, .ref 18), (1, .int (iI b)), (2, .int (iI p)), (3, .int (iI i))] [.int (iI (-4))] _ _ _ _
              refine pm_e_ret pm_a200_162 rfl rfl rfl rfl rfl rfl rfl rfl ?_
              refine k _ ?_
              subst h1
              exact ⟨i, h0, hl, by omega, fun ⟨z1, z2⟩ => by have := (tm_link ht z1 (by omega)).1; omega, by omega⟩
            · skip
              show pm_E _ _ _ 156 [(0, .ref 18), (1, .int (iI b)), (2, .int (iI p)), (3, .int (iI i))] [] _ _ _ _
              refine pm_e_sim pm_a200_156 rfl ?_
              show pm_E _ _ _ 157 [(0, .ref 18), (1, .int (iI b)), (2, .int (iI p)), (3, .int (iI i))] [.int (iI i)] _ _ _ _
              refine pm_e_goto pm_a200_157 rfl ?_
              show pm_E _ _ _ 162 [(0, .ref 18), (1, .int (iI b)), (2, .int (iI p)), (3, .int (iI i))] [.int (iI i)] _ _ _ _
              refine pm_e_ret pm_a200_162 rfl rfl rfl rfl rfl rfl rfl rfl ?_
              refine k _ ?_
              subst h1
              exact ⟨i, h0, hl, by omega, fun ⟨z1, z2⟩ => by have := (tm_link ht z1 (by omega)).1; omega, by omega⟩
          · skip
            show pm_E _ _ _ 146 [(0, .ref 18), (1, .int (iI b)), (2, .int (iI p)), (3, .int (iI i))] [.int (iI ((a 4) (p)))] _ _ _ _
            refine pm_e_sim pm_a200_146 rfl ?_
            refine pm_e_top (y := iI 10) (by decide +kernel) ?_
            show pm_E _ _ _ 148 [(0, .ref 18), (1, .int (iI b)), (2, .int (iI p)), (3, .int (iI i))] [.int (iI 10), .int (iI ((a 4) (p)))] _ _ _ _
            refine pm_e_goto pm_a200_148 rfl ?_
            show pm_E _ _ _ 153 [(0, .ref 18), (1, .int (iI b)), (2, .int (iI p)), (3, .int (iI i))] [.int (iI 10), .int (iI ((a 4) (p)))] _ _ _ _
            refine pm_c_ne (t := 160) pm_a200_153 rfl ⟨by omega, by omega⟩ ⟨by omega, by omega⟩ (fun h_10 => ?_) (fun h_10 => ?_)
            · skip
              show pm_E _ _ _ 160 [(0, .ref 18), (1, .int (iI b)), (2, .int (iI p)), (3, .int (iI i))] [] _ _ _ _
              refine pm_e_sim pm_a200_160 rfl ?_
              refine pm_e_top (y := iI (-4)) (by decide +kernel) ?_
              show pm_E _ _ _ 162 [(0, .ref 18), (1, .int (iI b)), (2, .int (iI p)), (3, .int (iI i))] [.int (iI (-4))] _ _ _ _
              refine pm_e_ret pm_a200_162 rfl rfl rfl rfl rfl rfl rfl rfl ?_
              refine k _ ?_
              subst h1
              exact ⟨i, h0, hl, by omega, fun ⟨z1, z2⟩ => by have := (tm_link ht z1 (by omega)).1; omega, by omega⟩
            · skip
              show pm_E _ _ _ 156 [(0, .ref 18), (1, .int (iI b)), (2, .int (iI p)), (3, .int (iI i))] [] _ _ _ _
              refine pm_e_sim pm_a200_156 rfl ?_
              show pm_E _ _ _ 157 [(0, .ref 18), (1, .int (iI b)), (2, .int (iI p)), (3, .int (iI i))] [.int (iI i)] _ _ _ _
              refine pm_e_goto pm_a200_157 rfl ?_
              show pm_E _ _ _ 162 [(0, .ref 18), (1, .int (iI b)), (2, .int (iI p)), (3, .int (iI i))] [.int (iI i)] _ _ _ _
              refine pm_e_ret pm_a200_162 rfl rfl rfl rfl rfl rfl rfl rfl ?_
              refine k _ ?_
              subst h1
              exact ⟨i, h0, hl, by omega, fun ⟨z1, z2⟩ => by have := (tm_link ht z1 (by omega)).1; omega, by omega⟩
      · skip
        show pm_E _ _ _ 96 [(0, .ref 18), (1, .int (iI b)), (2, .int (iI p)), (3, .int (iI i))] [] _ _ _ _
        refine pm_e_sim pm_a200_96 rfl ?_
        show pm_E _ _ _ 97 [(0, .ref 18), (1, .int (iI b)), (2, .int (iI p)), (3, .int (iI i))] [.ref 18] _ _ _ _
        refine pm_i_get pm_a200_97 rfl (mh_get (j := 0) hA rfl) rfl ?_
        show pm_E _ _ _ 100 [(0, .ref 18), (1, .int (iI b)), (2, .int (iI p)), (3, .int (iI i))] [.ref 22] _ _ _ _
        refine pm_e_sim pm_a200_100 rfl ?_
        show pm_E _ _ _ 101 [(0, .ref 18), (1, .int (iI b)), (2, .int (iI p)), (3, .int (iI i))] [.int (iI p), .ref 22] _ _ _ _
        refine pm_e_sim pm_a200_101 rfl ?_
        refine pm_e_top (y := iI 1) (by decide +kernel) ?_
        show pm_E _ _ _ 102 [(0, .ref 18), (1, .int (iI b)), (2, .int (iI p)), (3, .int (iI i))] [.int (iI 1), .int (iI p), .ref 22] _ _ _ _
        refine pm_e_sim pm_a200_102 rfl ?_
        refine pm_e_top (y := iI (p + 1)) (iI_add _ _) ?_
        show pm_E _ _ _ 103 [(0, .ref 18), (1, .int (iI b)), (2, .int (iI p)), (3, .int (iI i))] [.int (iI (p + 1)), .ref 22] _ _ _ _
        refine pm_i_ald pm_a200_103 (mh_get (j := 4) hA rfl) (by omega) (by omega) ⟨by omega, by omega⟩ ?_
        show pm_E _ _ _ 104 [(0, .ref 18), (1, .int (iI b)), (2, .int (iI p)), (3, .int (iI i))] [.int (iI ((a 4) (p + 1)))] _ _ _ _
        have := hr (p + 1)
        refine pm_e_sim pm_a200_104 rfl ?_
        show pm_E _ _ _ 105 [(0, .ref 18), (1, .int (iI b)), (2, .int (iI p)), (3, .int (iI i))] [.int (iI b), .int (iI ((a 4) (p + 1)))] _ _ _ _
        refine pm_i_eq (t := 113) pm_a200_105 rfl ⟨by omega, by omega⟩ (fun h_11 => ?_) (fun h_11 => ?_)
        · skip
          show pm_E _ _ _ 113 [(0, .ref 18), (1, .int (iI b)), (2, .int (iI p)), (3, .int (iI i))] [.int (iI ((a 4) (p + 1)))] _ _ _ _
          refine pm_e_sim pm_a200_113 rfl ?_
          refine pm_e_top (y := iI 5) (by decide +kernel) ?_
          show pm_E _ _ _ 114 [(0, .ref 18), (1, .int (iI b)), (2, .int (iI p)), (3, .int (iI i))] [.int (iI 5), .int (iI ((a 4) (p + 1)))] _ _ _ _
          refine pm_c_ne (t := 126) pm_a200_114 rfl ⟨by omega, by omega⟩ ⟨by omega, by omega⟩ (fun h_12 => ?_) (fun h_12 => ?_)
          · skip
            show pm_E _ _ _ 126 [(0, .ref 18), (1, .int (iI b)), (2, .int (iI p)), (3, .int (iI i))] [] _ _ _ _
            refine pm_e_sim pm_a200_126 rfl ?_
            show pm_E _ _ _ 127 [(0, .ref 18), (1, .int (iI b)), (2, .int (iI p)), (3, .int (iI i))] [.int (iI p)] _ _ _ _
            refine pm_e_sim pm_a200_127 rfl ?_
            show pm_E _ _ _ 128 [(0, .ref 18), (1, .int (iI b)), (2, .int (iI p)), (3, .int (iI i))] [.ref 18, .int (iI p)] _ _ _ _
            refine pm_i_get pm_a200_128 rfl (mh_get (j := 0) hA rfl) rfl ?_
            show pm_E _ _ _ 131 [(0, .ref 18), (1, .int (iI b)), (2, .int (iI p)), (3, .int (iI i))] [.int (iI (s 6)), .int (iI p)] _ _ _ _
            refine pm_e_sim pm_a200_131 rfl ?_
            refine pm_e_top (y := iI 1) (by decide +kernel) ?_
            show pm_E _ _ _ 132 [(0, .ref 18), (1, .int (iI b)), (2, .int (iI p)), (3, .int (iI i))] [.int (iI 1), .int (iI (s 6)), .int (iI p)] _ _ _ _
            refine pm_e_sim pm_a200_132 rfl ?_
            refine pm_e_top (y := iI (s 6 - 1)) (iI_sub _ _) ?_
            show pm_E _ _ _ 133 [(0, .ref 18), (1, .int (iI b)), (2, .int (iI p)), (3, .int (iI i))] [.int (iI (s 6 - 1)), .int (iI p)] _ _ _ _
            refine pm_c_ne (t := 160) pm_a200_133 rfl ⟨by omega, by omega⟩ ⟨by omega, by omega⟩ (fun h_13 => ?_) (fun h_13 => ?_)
            · skip
              show pm_E _ _ _ 160 [(0, .ref 18), (1, .int (iI b)), (2, .int (iI p)), (3, .int (iI i))] [] _ _ _ _
              refine pm_e_sim pm_a200_160 rfl ?_
              refine pm_e_top (y := iI (-4)) (by decide +kernel) ?_
              show pm_E _ _ _ 162 [(0, .ref 18), (1, .int (iI b)), (2, .int (iI p)), (3, .int (iI i))] [.int (iI (-4))] _ _ _ _
              refine pm_e_ret pm_a200_162 rfl rfl rfl rfl rfl rfl rfl rfl ?_
              refine k _ ?_
              subst h1
              exact ⟨i, h0, hl, by omega, fun ⟨z1, z2⟩ => by have := (tm_link ht z1 (by omega)).1; omega, by omega⟩
            · skip
              show pm_E _ _ _ 136 [(0, .ref 18), (1, .int (iI b)), (2, .int (iI p)), (3, .int (iI i))] [] _ _ _ _
              refine pm_e_sim pm_a200_136 rfl ?_
              show pm_E _ _ _ 137 [(0, .ref 18), (1, .int (iI b)), (2, .int (iI p)), (3, .int (iI i))] [.ref 18] _ _ _ _
              refine pm_i_get pm_a200_137 rfl (mh_get (j := 0) hA rfl) rfl ?_
              show pm_E _ _ _ 140 [(0, .ref 18), (1, .int (iI b)), (2, .int (iI p)), (3, .int (iI i))] [.ref 22] _ _ _ _
              refine pm_e_sim pm_a200_140 rfl ?_
              show pm_E _ _ _ 141 [(0, .ref 18), (1, .int (iI b)), (2, .int (iI p)), (3, .int (iI i))] [.int (iI p), .ref 22] _ _ _ _
              refine pm_i_ald pm_a200_141 (mh_get (j := 4) hA rfl) (by omega) (by omega) ⟨by omega, by omega⟩ ?_
              show pm_E _ _ _ 142 [(0, .ref 18), (1, .int (iI b)), (2, .int (iI p)), (3, .int (iI i))] [.int (iI ((a 4) (p)))] _ _ _ _
              have := hr (p)
              refine pm_e_sim pm_a200_142 rfl ?_
              show pm_E _ _ _ 143 [(0, .ref 18), (1, .int (iI b)), (2, .int (iI p)), (3, .int (iI i))] [.int (iI b), .int (iI ((a 4) (p)))] _ _ _ _
              refine pm_i_eq (t := 151) pm_a200_143 rfl ⟨by omega, by omega⟩ (fun h_14 => ?_) (fun h_14 => ?_)
              · skip
                show pm_E _ _ _ 151 [(0, .ref 18), (1, .int (iI b)), (2, .int (iI p)), (3, .int (iI i))] [.int (iI ((a 4) (p)))] _ _ _ _
                refine pm_e_sim pm_a200_151 rfl ?_
                refine pm_e_top (y := iI 6) (by decide +kernel) ?_
                show pm_E _ _ _ 153 [(0, .ref 18), (1, .int (iI b)), (2, .int (iI p)), (3, .int (iI i))] [.int (iI 6), .int (iI ((a 4) (p)))] _ _ _ _
                refine pm_c_ne (t := 160) pm_a200_153 rfl ⟨by omega, by omega⟩ ⟨by omega, by omega⟩ (fun h_15 => ?_) (fun h_15 => ?_)
                · skip
                  show pm_E _ _ _ 160 [(0, .ref 18), (1, .int (iI b)), (2, .int (iI p)), (3, .int (iI i))] [] _ _ _ _
                  refine pm_e_sim pm_a200_160 rfl ?_
                  refine pm_e_top (y := iI (-4)) (by decide +kernel) ?_
                  show pm_E _ _ _ 162 [(0, .ref 18), (1, .int (iI b)), (2, .int (iI p)), (3, .int (iI i))] [.int (iI (-4))] _ _ _ _
                  refine pm_e_ret pm_a200_162 rfl rfl rfl rfl rfl rfl rfl rfl ?_
                  refine k _ ?_
                  subst h1
                  exact ⟨i, h0, hl, by omega, fun ⟨z1, z2⟩ => by have := (tm_link ht z1 (by omega)).1; omega, by omega⟩
                · skip
                  show pm_E _ _ _ 156 [(0, .ref 18), (1, .int (iI b)), (2, .int (iI p)), (3, .int (iI i))] [] _ _ _ _
                  refine pm_e_sim pm_a200_156 rfl ?_
                  show pm_E _ _ _ 157 [(0, .ref 18), (1, .int (iI b)), (2, .int (iI p)), (3, .int (iI i))] [.int (iI i)] _ _ _ _
                  refine pm_e_goto pm_a200_157 rfl ?_
                  show pm_E _ _ _ 162 [(0, .ref 18), (1, .int (iI b)), (2, .int (iI p)), (3, .int (iI i))] [.int (iI i)] _ _ _ _
                  refine pm_e_ret pm_a200_162 rfl rfl rfl rfl rfl rfl rfl rfl ?_
                  refine k _ ?_
                  subst h1
                  exact ⟨i, h0, hl, by omega, fun ⟨z1, z2⟩ => by have := (tm_link ht z1 (by omega)).1; omega, by omega⟩
              · skip
                show pm_E _ _ _ 146 [(0, .ref 18), (1, .int (iI b)), (2, .int (iI p)), (3, .int (iI i))] [.int (iI ((a 4) (p)))] _ _ _ _
                refine pm_e_sim pm_a200_146 rfl ?_
                refine pm_e_top (y := iI 10) (by decide +kernel) ?_
                show pm_E _ _ _ 148 [(0, .ref 18), (1, .int (iI b)), (2, .int (iI p)), (3, .int (iI i))] [.int (iI 10), .int (iI ((a 4) (p)))] _ _ _ _
                refine pm_e_goto pm_a200_148 rfl ?_
                show pm_E _ _ _ 153 [(0, .ref 18), (1, .int (iI b)), (2, .int (iI p)), (3, .int (iI i))] [.int (iI 10), .int (iI ((a 4) (p)))] _ _ _ _
                refine pm_c_ne (t := 160) pm_a200_153 rfl ⟨by omega, by omega⟩ ⟨by omega, by omega⟩ (fun h_16 => ?_) (fun h_16 => ?_)
                · skip
                  show pm_E _ _ _ 160 [(0, .ref 18), (1, .int (iI b)), (2, .int (iI p)), (3, .int (iI i))] [] _ _ _ _
                  refine pm_e_sim pm_a200_160 rfl ?_
                  refine pm_e_top (y := iI (-4)) (by decide +kernel) ?_
                  show pm_E _ _ _ 162 [(0, .ref 18), (1, .int (iI b)), (2, .int (iI p)), (3, .int (iI i))] [.int (iI (-4))] _ _ _ _
                  refine pm_e_ret pm_a200_162 rfl rfl rfl rfl rfl rfl rfl rfl ?_
                  refine k _ ?_
                  subst h1
                  exact ⟨i, h0, hl, by omega, fun ⟨z1, z2⟩ => by have := (tm_link ht z1 (by omega)).1; omega, by omega⟩
                · skip
                  show pm_E _ _ _ 156 [(0, .ref 18), (1, .int (iI b)), (2, .int (iI p)), (3, .int (iI i))] [] _ _ _ _
                  refine pm_e_sim pm_a200_156 rfl ?_
                  show pm_E _ _ _ 157 [(0, .ref 18), (1, .int (iI b)), (2, .int (iI p)), (3, .int (iI i))] [.int (iI i)] _ _ _ _
                  refine pm_e_goto pm_a200_157 rfl ?_
                  show pm_E _ _ _ 162 [(0, .ref 18), (1, .int (iI b)), (2, .int (iI p)), (3, .int (iI i))] [.int (iI i)] _ _ _ _
                  refine pm_e_ret pm_a200_162 rfl rfl rfl rfl rfl rfl rfl rfl ?_
                  refine k _ ?_
                  subst h1
                  exact ⟨i, h0, hl, by omega, fun ⟨z1, z2⟩ => by have := (tm_link ht z1 (by omega)).1; omega, by omega⟩
          · skip
            show pm_E _ _ _ 117 [(0, .ref 18), (1, .int (iI b)), (2, .int (iI p)), (3, .int (iI i))] [] _ _ _ _
            refine pm_e_inc (y := iI (p + 2)) pm_a200_117 rfl (iI_add _ _) (by decide +kernel) rfl ?_
            show pm_E _ _ _ 120 [(0, .ref 18), (1, .int (iI b)), (2, .int (iI (p + 2))), (3, .int (iI i))] [] _ _ _ _
            refine pm_e_inc (y := iI (i + 1)) pm_a200_120 rfl (iI_add _ _) (by decide +kernel) rfl ?_
            show pm_E _ _ _ 123 [(0, .ref 18), (1, .int (iI b)), (2, .int (iI (p + 2))), (3, .int (iI (i + 1)))] [] _ _ _ _
            refine pm_e_goto pm_a200_123 rfl ?_
            show pm_E _ _ _ 77 [(0, .ref 18), (1, .int (iI b)), (2, .int (iI (p + 2))), (3, .int (iI (i + 1)))] [] _ _ _ _
            refine ih (p + 2) (i + 1) (by omega) (by omega) ?_ ?_ (by omega)
            · obtain ⟨_, f', t'⟩ := tm_link ht (by omega) (by omega)
              exact ⟨f', kk, t'⟩
            · intro j j0 j1
              by_cases hj : j = i
              · rw [hj, ← h1]
                exact ⟨by omega, by omega, by omega⟩
              · exact hl j j0 (by omega)
        · skip
          show pm_E _ _ _ 108 [(0, .ref 18), (1, .int (iI b)), (2, .int (iI p)), (3, .int (iI i))] [.int (iI ((a 4) (p + 1)))] _ _ _ _
          refine pm_e_sim pm_a200_108 rfl ?_
          refine pm_e_top (y := iI 11) (by decide +kernel) ?_
          show pm_E _ _ _ 110 [(0, .ref 18), (1, .int (iI b)), (2, .int (iI p)), (3, .int (iI i))] [.int (iI 11), .int (iI ((a 4) (p + 1)))] _ _ _ _
          refine pm_e_goto pm_a200_110 rfl ?_
          show pm_E _ _ _ 114 [(0, .ref 18), (1, .int (iI b)), (2, .int (iI p)), (3, .int (iI i))] [.int (iI 11), .int (iI ((a 4) (p + 1)))] _ _ _ _
          refine pm_c_ne (t := 126) pm_a200_114 rfl ⟨by omega, by omega⟩ ⟨by omega, by omega⟩ (fun h_17 => ?_) (fun h_17 => ?_)
          · skip
            show pm_E _ _ _ 126 [(0, .ref 18), (1, .int (iI b)), (2, .int (iI p)), (3, .int (iI i))] [] _ _ _ _
            refine pm_e_sim pm_a200_126 rfl ?_
            show pm_E _ _ _ 127 [(0, .ref 18), (1, .int (iI b)), (2, .int (iI p)), (3, .int (iI i))] [.int (iI p)] _ _ _ _
            refine pm_e_sim pm_a200_127 rfl ?_
            show pm_E _ _ _ 128 [(0, .ref 18), (1, .int (iI b)), (2, .int (iI p)), (3, .int (iI i))] [.ref 18, .int (iI p)] _ _ _ _
            refine pm_i_get pm_a200_128 rfl (mh_get (j := 0) hA rfl) rfl ?_
            show pm_E _ _ _ 131 [(0, .ref 18), (1, .int (iI b)), (2, .int (iI p)), (3, .int (iI i))] [.int (iI (s 6)), .int (iI p)] _ _ _ _
            refine pm_e_sim pm_a200_131 rfl ?_
            refine pm_e_top (y := iI 1) (by decide +kernel) ?_
            show pm_E _ _ _ 132 [(0, .ref 18), (1, .int (iI b)), (2, .int (iI p)), (3, .int (iI i))] [.int (iI 1), .int (iI (s 6)), .int (iI p)] _ _ _ _
            refine pm_e_sim pm_a200_132 rfl ?_
            refine pm_e_top (y := iI (s 6 - 1)) (iI_sub _ _) ?_
            show pm_E _ _ _ 133 [(0, .ref 18), (1, .int (iI b)), (2, .int (iI p)), (3, .int (iI i))] [.int (iI (s 6 - 1)), .int (iI p)] _ _ _ _
            refine pm_c_ne (t := 160) pm_a200_133 rfl ⟨by omega, by omega⟩ ⟨by omega, by omega⟩ (fun h_18 => ?_) (fun h_18 => ?_)
            · skip
              show pm_E _ _ _ 160 [(0, .ref 18), (1, .int (iI b)), (2, .int (iI p)), (3, .int (iI i))] [] _ _ _ _
              refine pm_e_sim pm_a200_160 rfl ?_
              refine pm_e_top (y := iI (-4)) (by decide +kernel) ?_
              show pm_E _ _ _ 162 [(0, .ref 18), (1, .int (iI b)), (2, .int (iI p)), (3, .int (iI i))] [.int (iI (-4))] _ _ _ _
              refine pm_e_ret pm_a200_162 rfl rfl rfl rfl rfl rfl rfl rfl ?_
              refine k _ ?_
              subst h1
              exact ⟨i, h0, hl, by omega, fun ⟨z1, z2⟩ => by have := (tm_link ht z1 (by omega)).1; omega, by omega⟩
            · skip
              show pm_E _ _ _ 136 [(0, .ref 18), (1, .int (iI b)), (2, .int (iI p)), (3, .int (iI i))] [] _ _ _ _
              refine pm_e_sim pm_a200_136 rfl ?_
              show pm_E _ _ _ 137 [(0, .ref 18), (1, .int (iI b)), (2, .int (iI p)), (3, .int (iI i))] [.ref 18] _ _ _ _
              refine pm_i_get pm_a200_137 rfl (mh_get (j := 0) hA rfl) rfl ?_
              show pm_E _ _ _ 140 [(0, .ref 18), (1, .int (iI b)), (2, .int (iI p)), (3, .int (iI i))] [.ref 22] _ _ _ _
              refine pm_e_sim pm_a200_140 rfl ?_
              show pm_E _ _ _ 141 [(0, .ref 18), (1, .int (iI b)), (2, .int (iI p)), (3, .int (iI i))] [.int (iI p), .ref 22] _ _ _ _
              refine pm_i_ald pm_a200_141 (mh_get (j := 4) hA rfl) (by omega) (by omega) ⟨by omega, by omega⟩ ?_
              show pm_E _ _ _ 142 [(0, .ref 18), (1, .int (iI b)), (2, .int (iI p)), (3, .int (iI i))] [.int (iI ((a 4) (p)))] _ _ _ _
              have := hr (p)
              refine pm_e_sim pm_a200_142 rfl ?_
              show pm_E _ _ _ 143 [(0, .ref 18), (1, .int (iI b)), (2, .int (iI p)), (3, .int (iI i))] [.int (iI b), .int (iI ((a 4) (p)))] _ _ _ _
              refine pm_i_eq (t := 151) pm_a200_143 rfl ⟨by omega, by omega⟩ (fun h_19 => ?_) (fun h_19 => ?_)
              · skip
                show pm_E _ _ _ 151 [(0, .ref 18), (1, .int (iI b)), (2, .int (iI p)), (3, .int (iI i))] [.int (iI ((a 4) (p)))] _ _ _ _
                refine pm_e_sim pm_a200_151 rfl ?_
                refine pm_e_top (y := iI 6) (by decide +kernel) ?_
                show pm_E _ _ _ 153 [(0, .ref 18), (1, .int (iI b)), (2, .int (iI p)), (3, .int (iI i))] [.int (iI 6), .int (iI ((a 4) (p)))] _ _ _ _
                refine pm_c_ne (t := 160) pm_a200_153 rfl ⟨by omega, by omega⟩ ⟨by omega, by omega⟩ (fun h_20 => ?_) (fun h_20 => ?_)
                · skip
                  show pm_E _ _ _ 160 [(0, .ref 18), (1, .int (iI b)), (2, .int (iI p)), (3, .int (iI i))] [] _ _ _ _
                  refine pm_e_sim pm_a200_160 rfl ?_
                  refine pm_e_top (y := iI (-4)) (by decide +kernel) ?_
                  show pm_E _ _ _ 162 [(0, .ref 18), (1, .int (iI b)), (2, .int (iI p)), (3, .int (iI i))] [.int (iI (-4))] _ _ _ _
                  refine pm_e_ret pm_a200_162 rfl rfl rfl rfl rfl rfl rfl rfl ?_
                  refine k _ ?_
                  subst h1
                  exact ⟨i, h0, hl, by omega, fun ⟨z1, z2⟩ => by have := (tm_link ht z1 (by omega)).1; omega, by omega⟩
                · skip
                  show pm_E _ _ _ 156 [(0, .ref 18), (1, .int (iI b)), (2, .int (iI p)), (3, .int (iI i))] [] _ _ _ _
                  refine pm_e_sim pm_a200_156 rfl ?_
                  show pm_E _ _ _ 157 [(0, .ref 18), (1, .int (iI b)), (2, .int (iI p)), (3, .int (iI i))] [.int (iI i)] _ _ _ _
                  refine pm_e_goto pm_a200_157 rfl ?_
                  show pm_E _ _ _ 162 [(0, .ref 18), (1, .int (iI b)), (2, .int (iI p)), (3, .int (iI i))] [.int (iI i)] _ _ _ _
                  refine pm_e_ret pm_a200_162 rfl rfl rfl rfl rfl rfl rfl rfl ?_
                  refine k _ ?_
                  subst h1
                  exact ⟨i, h0, hl, by omega, fun ⟨z1, z2⟩ => by have := (tm_link ht z1 (by omega)).1; omega, by omega⟩
              · skip
                show pm_E _ _ _ 146 [(0, .ref 18), (1, .int (iI b)), (2, .int (iI p)), (3, .int (iI i))] [.int (iI ((a 4) (p)))] _ _ _ _
                refine pm_e_sim pm_a200_146 rfl ?_
                refine pm_e_top (y := iI 10) (by decide +kernel) ?_
                show pm_E _ _ _ 148 [(0, .ref 18), (1, .int (iI b)), (2, .int (iI p)), (3, .int (iI i))] [.int (iI 10), .int (iI ((a 4) (p)))] _ _ _ _
                refine pm_e_goto pm_a200_148 rfl ?_
                show pm_E _ _ _ 153 [(0, .ref 18), (1, .int (iI b)), (2, .int (iI p)), (3, .int (iI i))] [.int (iI 10), .int (iI ((a 4) (p)))] _ _ _ _
                refine pm_c_ne (t := 160) pm_a200_153 rfl ⟨by omega, by omega⟩ ⟨by omega, by omega⟩ (fun h_21 => ?_) (fun h_21 => ?_)
                · skip
                  show pm_E _ _ _ 160 [(0, .ref 18), (1, .int (iI b)), (2, .int (iI p)), (3, .int (iI i))] [] _ _ _ _
                  refine pm_e_sim pm_a200_160 rfl ?_
                  refine pm_e_top (y := iI (-4)) (by decide +kernel) ?_
                  show pm_E _ _ _ 162 [(0, .ref 18), (1, .int (iI b)), (2, .int (iI p)), (3, .int (iI i))] [.int (iI (-4))] _ _ _ _
                  refine pm_e_ret pm_a200_162 rfl rfl rfl rfl rfl rfl rfl rfl ?_
                  refine k _ ?_
                  subst h1
                  exact ⟨i, h0, hl, by omega, fun ⟨z1, z2⟩ => by have := (tm_link ht z1 (by omega)).1; omega, by omega⟩
                · skip
                  show pm_E _ _ _ 156 [(0, .ref 18), (1, .int (iI b)), (2, .int (iI p)), (3, .int (iI i))] [] _ _ _ _
                  refine pm_e_sim pm_a200_156 rfl ?_
                  show pm_E _ _ _ 157 [(0, .ref 18), (1, .int (iI b)), (2, .int (iI p)), (3, .int (iI i))] [.int (iI i)] _ _ _ _
                  refine pm_e_goto pm_a200_157 rfl ?_
                  show pm_E _ _ _ 162 [(0, .ref 18), (1, .int (iI b)), (2, .int (iI p)), (3, .int (iI i))] [.int (iI i)] _ _ _ _
                  refine pm_e_ret pm_a200_162 rfl rfl rfl rfl rfl rfl rfl rfl ?_
                  refine k _ ?_
                  subst h1
                  exact ⟨i, h0, hl, by omega, fun ⟨z1, z2⟩ => by have := (tm_link ht z1 (by omega)).1; omega, by omega⟩
          · skip
            show pm_E _ _ _ 117 [(0, .ref 18), (1, .int (iI b)), (2, .int (iI p)), (3, .int (iI i))] [] _ _ _ _
            refine pm_e_inc (y := iI (p + 2)) pm_a200_117 rfl (iI_add _ _) (by decide +kernel) rfl ?_
            show pm_E _ _ _ 120 [(0, .ref 18), (1, .int (iI b)), (2, .int (iI (p + 2))), (3, .int (iI i))] [] _ _ _ _
            refine pm_e_inc (y := iI (i + 1)) pm_a200_120 rfl (iI_add _ _) (by decide +kernel) rfl ?_
            show pm_E _ _ _ 123 [(0, .ref 18), (1, .int (iI b)), (2, .int (iI (p + 2))), (3, .int (iI (i + 1)))] [] _ _ _ _
            refine pm_e_goto pm_a200_123 rfl ?_
            show pm_E _ _ _ 77 [(0, .ref 18), (1, .int (iI b)), (2, .int (iI (p + 2))), (3, .int (iI (i + 1)))] [] _ _ _ _
            refine ih (p + 2) (i + 1) (by omega) (by omega) ?_ ?_ (by omega)
            · obtain ⟨_, f', t'⟩ := tm_link ht (by omega) (by omega)
              exact ⟨f', kk, t'⟩
            · intro j j0 j1
              by_cases hj : j = i
              · rw [hj, ← h1]
                exact ⟨by omega, by omega, by omega⟩
              · exact hl j j0 (by omega)
set_option maxHeartbeats 4000000 in
set_option maxRecDepth 100000 in
theorem M_numberNow {d : Nat} {A B : List va_E} {s : Nat → Int} {vl : Int64} {a : Nat → Int → Int} {nm : Nat → Int64} {Q : Option Value → List va_E → Nat → Nat → Prop} {ft : Nat} {kk : Int} (hA : A.length = 18) (hr : ∀ j, in32 (a 4 j)) (h6 : 1 ≤ s 6) (h61 : s 6 ≤ 500) (ht : tm (a 4) ft kk 0 (s 6)) (k : ∀ r, nbR (a 4) (s 6) r → Q (some (.int (iI r))) (mh A s vl a nm B) 0 0) : pm_E none d pm_mm200 0 [(0, .ref 18)] [] (mh A s vl a nm B) 0 0 Q := by
  have nf := num_f ht
  have v0 := hr 0
  have v1 := hr 1
  refine pm_e_sim pm_a200_0 rfl ?_
  show pm_E _ _ _ 1 [(0, .ref 18)] [.ref 18] _ _ _ _
  refine pm_i_get pm_a200_1 rfl (mh_get (j := 0) hA rfl) rfl ?_
  show pm_E _ _ _ 4 [(0, .ref 18)] [.int (iI (s 6))] _ _ _ _
  refine pm_e_sim pm_a200_4 rfl ?_
  refine pm_e_top (y := iI 2) (by decide +kernel) ?_
  show pm_E _ _ _ 5 [(0, .ref 18)] [.int (iI 2), .int (iI (s 6))] _ _ _ _
  refine pm_c_ne (t := 31) pm_a200_5 rfl ⟨by omega, by omega⟩ ⟨by omega, by omega⟩ (fun h_1 => ?_) (fun h_1 => ?_)
  · skip
    show pm_E _ _ _ 31 [(0, .ref 18)] [] _ _ _ _
    refine pm_e_sim pm_a200_31 rfl ?_
    show pm_E _ _ _ 32 [(0, .ref 18)] [.ref 18] _ _ _ _
    refine pm_i_get pm_a200_32 rfl (mh_get (j := 0) hA rfl) rfl ?_
    show pm_E _ _ _ 35 [(0, .ref 18)] [.int (iI (s 6))] _ _ _ _
    refine pm_e_sim pm_a200_35 rfl ?_
    refine pm_e_top (y := iI 2) (by decide +kernel) ?_
    show pm_E _ _ _ 36 [(0, .ref 18)] [.int (iI 2), .int (iI (s 6))] _ _ _ _
    refine pm_c_le (t := 63) pm_a200_36 rfl ⟨by omega, by omega⟩ ⟨by omega, by omega⟩ (fun h_2 => ?_) (fun h_2 => ?_)
    · skip
      show pm_E _ _ _ 63 [(0, .ref 18)] [] _ _ _ _
      refine pm_e_sim pm_a200_63 rfl ?_
      refine pm_e_top (y := iI 0) (by decide +kernel) ?_
      show pm_E _ _ _ 64 [(0, .ref 18)] [.int (iI 0)] _ _ _ _
      refine pm_e_sim pm_a200_64 rfl ?_
      show pm_E _ _ _ 65 [(0, .ref 18), (1, .int (iI 0))] [] _ _ _ _
      refine pm_e_sim pm_a200_65 rfl ?_
      show pm_E _ _ _ 66 [(0, .ref 18), (1, .int (iI 0))] [.int (iI 0)] _ _ _ _
      refine pm_e_ift pm_a200_66 rfl (by decide +kernel) ?_
      show pm_E _ _ _ 73 [(0, .ref 18), (1, .int (iI 0))] [] _ _ _ _
      refine pm_e_sim pm_a200_73 rfl ?_
      refine pm_e_top (y := iI 0) (by decide +kernel) ?_
      show pm_E _ _ _ 74 [(0, .ref 18), (1, .int (iI 0))] [.int (iI 0)] _ _ _ _
      refine pm_e_sim pm_a200_74 rfl ?_
      show pm_E _ _ _ 75 [(0, .ref 18), (1, .int (iI 0)), (2, .int (iI 0))] [] _ _ _ _
      refine pm_e_sim pm_a200_75 rfl ?_
      refine pm_e_top (y := iI 0) (by decide +kernel) ?_
      show pm_E _ _ _ 76 [(0, .ref 18), (1, .int (iI 0)), (2, .int (iI 0))] [.int (iI 0)] _ _ _ _
      refine pm_e_sim pm_a200_76 rfl ?_
      show pm_E _ _ _ 77 [(0, .ref 18), (1, .int (iI 0)), (2, .int (iI 0)), (3, .int (iI 0))] [] _ _ _ _
      exact M_numberNow_l (b := 0) (x0 := 0) (lk := 5) (la := 6) hA hr (by omega) (by omega) (Or.inl ⟨rfl, rfl, rfl⟩) ⟨by omega, by omega⟩ (fun r hc => k r (num_0 (by omega) hc)) 601 0 0 (by omega) (by omega) ⟨_, _, ht⟩ (fun j j0 j1 => by omega) (by omega)
    · skip
      show pm_E _ _ _ 39 [(0, .ref 18)] [] _ _ _ _
      refine pm_e_sim pm_a200_39 rfl ?_
      show pm_E _ _ _ 40 [(0, .ref 18)] [.ref 18] _ _ _ _
      refine pm_i_get pm_a200_40 rfl (mh_get (j := 0) hA rfl) rfl ?_
      show pm_E _ _ _ 43 [(0, .ref 18)] [.ref 22] _ _ _ _
      refine pm_e_sim pm_a200_43 rfl ?_
      refine pm_e_top (y := iI 0) (by decide +kernel) ?_
      show pm_E _ _ _ 44 [(0, .ref 18)] [.int (iI 0), .ref 22] _ _ _ _
      refine pm_i_ald pm_a200_44 (mh_get (j := 4) hA rfl) (by omega) (by omega) ⟨by omega, by omega⟩ ?_
      show pm_E _ _ _ 45 [(0, .ref 18)] [.int (iI ((a 4) (0)))] _ _ _ _
      have := hr (0)
      refine pm_e_sim pm_a200_45 rfl ?_
      refine pm_e_top (y := iI 1) (by decide +kernel) ?_
      show pm_E _ _ _ 46 [(0, .ref 18)] [.int (iI 1), .int (iI ((a 4) (0)))] _ _ _ _
      refine pm_c_ne (t := 63) pm_a200_46 rfl ⟨by omega, by omega⟩ ⟨by omega, by omega⟩ (fun h_3 => ?_) (fun h_3 => ?_)
      · skip
        show pm_E _ _ _ 63 [(0, .ref 18)] [] _ _ _ _
        refine pm_e_sim pm_a200_63 rfl ?_
        refine pm_e_top (y := iI 0) (by decide +kernel) ?_
        show pm_E _ _ _ 64 [(0, .ref 18)] [.int (iI 0)] _ _ _ _
        refine pm_e_sim pm_a200_64 rfl ?_
        show pm_E _ _ _ 65 [(0, .ref 18), (1, .int (iI 0))] [] _ _ _ _
        refine pm_e_sim pm_a200_65 rfl ?_
        show pm_E _ _ _ 66 [(0, .ref 18), (1, .int (iI 0))] [.int (iI 0)] _ _ _ _
        refine pm_e_ift pm_a200_66 rfl (by decide +kernel) ?_
        show pm_E _ _ _ 73 [(0, .ref 18), (1, .int (iI 0))] [] _ _ _ _
        refine pm_e_sim pm_a200_73 rfl ?_
        refine pm_e_top (y := iI 0) (by decide +kernel) ?_
        show pm_E _ _ _ 74 [(0, .ref 18), (1, .int (iI 0))] [.int (iI 0)] _ _ _ _
        refine pm_e_sim pm_a200_74 rfl ?_
        show pm_E _ _ _ 75 [(0, .ref 18), (1, .int (iI 0)), (2, .int (iI 0))] [] _ _ _ _
        refine pm_e_sim pm_a200_75 rfl ?_
        refine pm_e_top (y := iI 0) (by decide +kernel) ?_
        show pm_E _ _ _ 76 [(0, .ref 18), (1, .int (iI 0)), (2, .int (iI 0))] [.int (iI 0)] _ _ _ _
        refine pm_e_sim pm_a200_76 rfl ?_
        show pm_E _ _ _ 77 [(0, .ref 18), (1, .int (iI 0)), (2, .int (iI 0)), (3, .int (iI 0))] [] _ _ _ _
        exact M_numberNow_l (b := 0) (x0 := 0) (lk := 5) (la := 6) hA hr (by omega) (by omega) (Or.inl ⟨rfl, rfl, rfl⟩) ⟨by omega, by omega⟩ (fun r hc => k r (num_0 (by omega) hc)) 601 0 0 (by omega) (by omega) ⟨_, _, ht⟩ (fun j j0 j1 => by omega) (by omega)
      · skip
        show pm_E _ _ _ 49 [(0, .ref 18)] [] _ _ _ _
        refine pm_e_sim pm_a200_49 rfl ?_
        show pm_E _ _ _ 50 [(0, .ref 18)] [.ref 18] _ _ _ _
        refine pm_i_get pm_a200_50 rfl (mh_get (j := 0) hA rfl) rfl ?_
        show pm_E _ _ _ 53 [(0, .ref 18)] [.ref 22] _ _ _ _
        refine pm_e_sim pm_a200_53 rfl ?_
        refine pm_e_top (y := iI 1) (by decide +kernel) ?_
        show pm_E _ _ _ 54 [(0, .ref 18)] [.int (iI 1), .ref 22] _ _ _ _
        refine pm_i_ald pm_a200_54 (mh_get (j := 4) hA rfl) (by omega) (by omega) ⟨by omega, by omega⟩ ?_
        show pm_E _ _ _ 55 [(0, .ref 18)] [.int (iI ((a 4) (1)))] _ _ _ _
        have := hr (1)
        refine pm_e_sim pm_a200_55 rfl ?_
        refine pm_e_top (y := iI 1) (by decide +kernel) ?_
        show pm_E _ _ _ 56 [(0, .ref 18)] [.int (iI 1), .int (iI ((a 4) (1)))] _ _ _ _
        refine pm_c_ne (t := 63) pm_a200_56 rfl ⟨by omega, by omega⟩ ⟨by omega, by omega⟩ (fun h_4 => ?_) (fun h_4 => ?_)
        · skip
          show pm_E _ _ _ 63 [(0, .ref 18)] [] _ _ _ _
          refine pm_e_sim pm_a200_63 rfl ?_
          refine pm_e_top (y := iI 0) (by decide +kernel) ?_
          show pm_E _ _ _ 64 [(0, .ref 18)] [.int (iI 0)] _ _ _ _
          refine pm_e_sim pm_a200_64 rfl ?_
          show pm_E _ _ _ 65 [(0, .ref 18), (1, .int (iI 0))] [] _ _ _ _
          refine pm_e_sim pm_a200_65 rfl ?_
          show pm_E _ _ _ 66 [(0, .ref 18), (1, .int (iI 0))] [.int (iI 0)] _ _ _ _
          refine pm_e_ift pm_a200_66 rfl (by decide +kernel) ?_
          show pm_E _ _ _ 73 [(0, .ref 18), (1, .int (iI 0))] [] _ _ _ _
          refine pm_e_sim pm_a200_73 rfl ?_
          refine pm_e_top (y := iI 0) (by decide +kernel) ?_
          show pm_E _ _ _ 74 [(0, .ref 18), (1, .int (iI 0))] [.int (iI 0)] _ _ _ _
          refine pm_e_sim pm_a200_74 rfl ?_
          show pm_E _ _ _ 75 [(0, .ref 18), (1, .int (iI 0)), (2, .int (iI 0))] [] _ _ _ _
          refine pm_e_sim pm_a200_75 rfl ?_
          refine pm_e_top (y := iI 0) (by decide +kernel) ?_
          show pm_E _ _ _ 76 [(0, .ref 18), (1, .int (iI 0)), (2, .int (iI 0))] [.int (iI 0)] _ _ _ _
          refine pm_e_sim pm_a200_76 rfl ?_
          show pm_E _ _ _ 77 [(0, .ref 18), (1, .int (iI 0)), (2, .int (iI 0)), (3, .int (iI 0))] [] _ _ _ _
          exact M_numberNow_l (b := 0) (x0 := 0) (lk := 5) (la := 6) hA hr (by omega) (by omega) (Or.inl ⟨rfl, rfl, rfl⟩) ⟨by omega, by omega⟩ (fun r hc => k r (num_0 (by omega) hc)) 601 0 0 (by omega) (by omega) ⟨_, _, ht⟩ (fun j j0 j1 => by omega) (by omega)
        · skip
          show pm_E _ _ _ 59 [(0, .ref 18)] [] _ _ _ _
          refine pm_e_sim pm_a200_59 rfl ?_
          refine pm_e_top (y := iI 1) (by decide +kernel) ?_
          show pm_E _ _ _ 60 [(0, .ref 18)] [.int (iI 1)] _ _ _ _
          refine pm_e_goto pm_a200_60 rfl ?_
          show pm_E _ _ _ 64 [(0, .ref 18)] [.int (iI 1)] _ _ _ _
          refine pm_e_sim pm_a200_64 rfl ?_
          show pm_E _ _ _ 65 [(0, .ref 18), (1, .int (iI 1))] [] _ _ _ _
          refine pm_e_sim pm_a200_65 rfl ?_
          show pm_E _ _ _ 66 [(0, .ref 18), (1, .int (iI 1))] [.int (iI 1)] _ _ _ _
          refine pm_e_iff pm_a200_66 rfl (by decide +kernel) ?_
          show pm_E _ _ _ 69 [(0, .ref 18), (1, .int (iI 1))] [] _ _ _ _
          refine pm_e_sim pm_a200_69 rfl ?_
          refine pm_e_top (y := iI 2) (by decide +kernel) ?_
          show pm_E _ _ _ 70 [(0, .ref 18), (1, .int (iI 1))] [.int (iI 2)] _ _ _ _
          refine pm_e_goto pm_a200_70 rfl ?_
          show pm_E _ _ _ 74 [(0, .ref 18), (1, .int (iI 1))] [.int (iI 2)] _ _ _ _
          refine pm_e_sim pm_a200_74 rfl ?_
          show pm_E _ _ _ 75 [(0, .ref 18), (1, .int (iI 1)), (2, .int (iI 2))] [] _ _ _ _
          refine pm_e_sim pm_a200_75 rfl ?_
          refine pm_e_top (y := iI 0) (by decide +kernel) ?_
          show pm_E _ _ _ 76 [(0, .ref 18), (1, .int (iI 1)), (2, .int (iI 2))] [.int (iI 0)] _ _ _ _
          refine pm_e_sim pm_a200_76 rfl ?_
          show pm_E _ _ _ 77 [(0, .ref 18), (1, .int (iI 1)), (2, .int (iI 2)), (3, .int (iI 0))] [] _ _ _ _
          obtain ⟨f2, t2⟩ := num_t2 ht (by omega) (by omega)
          exact M_numberNow_l (b := 1) (x0 := 2) (lk := 11) (la := 10) hA hr (by omega) (by omega) (Or.inr ⟨rfl, rfl, rfl⟩) ⟨by omega, by omega⟩ (fun r hc => k r (Or.inr (Or.inl ⟨by omega, by omega, hc⟩))) 601 2 0 (by omega) (by omega) ⟨_, _, t2⟩ (fun j j0 j1 => by omega) (by omega)
  · skip
    show pm_E _ _ _ 8 [(0, .ref 18)] [] _ _ _ _
    refine pm_e_sim pm_a200_8 rfl ?_
    show pm_E _ _ _ 9 [(0, .ref 18)] [.ref 18] _ _ _ _
    refine pm_i_get pm_a200_9 rfl (mh_get (j := 0) hA rfl) rfl ?_
    show pm_E _ _ _ 12 [(0, .ref 18)] [.ref 22] _ _ _ _
    refine pm_e_sim pm_a200_12 rfl ?_
    refine pm_e_top (y := iI 0) (by decide +kernel) ?_
    show pm_E _ _ _ 13 [(0, .ref 18)] [.int (iI 0), .ref 22] _ _ _ _
    refine pm_i_ald pm_a200_13 (mh_get (j := 4) hA rfl) (by omega) (by omega) ⟨by omega, by omega⟩ ?_
    show pm_E _ _ _ 14 [(0, .ref 18)] [.int (iI ((a 4) (0)))] _ _ _ _
    have := hr (0)
    refine pm_e_sim pm_a200_14 rfl ?_
    refine pm_e_top (y := iI 1) (by decide +kernel) ?_
    show pm_E _ _ _ 15 [(0, .ref 18)] [.int (iI 1), .int (iI ((a 4) (0)))] _ _ _ _
    refine pm_c_ne (t := 31) pm_a200_15 rfl ⟨by omega, by omega⟩ ⟨by omega, by omega⟩ (fun h_5 => ?_) (fun h_5 => ?_)
    · skip
      show pm_E _ _ _ 31 [(0, .ref 18)] [] _ _ _ _
      refine pm_e_sim pm_a200_31 rfl ?_
      show pm_E _ _ _ 32 [(0, .ref 18)] [.ref 18] _ _ _ _
      refine pm_i_get pm_a200_32 rfl (mh_get (j := 0) hA rfl) rfl ?_
      show pm_E _ _ _ 35 [(0, .ref 18)] [.int (iI (s 6))] _ _ _ _
      refine pm_e_sim pm_a200_35 rfl ?_
      refine pm_e_top (y := iI 2) (by decide +kernel) ?_
      show pm_E _ _ _ 36 [(0, .ref 18)] [.int (iI 2), .int (iI (s 6))] _ _ _ _
      refine pm_c_le (t := 63) pm_a200_36 rfl ⟨by omega, by omega⟩ ⟨by omega, by omega⟩ (fun h_6 => ?_) (fun h_6 => ?_)
      · skip
        show pm_E _ _ _ 63 [(0, .ref 18)] [] _ _ _ _
        refine pm_e_sim pm_a200_63 rfl ?_
        refine pm_e_top (y := iI 0) (by decide +kernel) ?_
        show pm_E _ _ _ 64 [(0, .ref 18)] [.int (iI 0)] _ _ _ _
        refine pm_e_sim pm_a200_64 rfl ?_
        show pm_E _ _ _ 65 [(0, .ref 18), (1, .int (iI 0))] [] _ _ _ _
        refine pm_e_sim pm_a200_65 rfl ?_
        show pm_E _ _ _ 66 [(0, .ref 18), (1, .int (iI 0))] [.int (iI 0)] _ _ _ _
        refine pm_e_ift pm_a200_66 rfl (by decide +kernel) ?_
        show pm_E _ _ _ 73 [(0, .ref 18), (1, .int (iI 0))] [] _ _ _ _
        refine pm_e_sim pm_a200_73 rfl ?_
        refine pm_e_top (y := iI 0) (by decide +kernel) ?_
        show pm_E _ _ _ 74 [(0, .ref 18), (1, .int (iI 0))] [.int (iI 0)] _ _ _ _
        refine pm_e_sim pm_a200_74 rfl ?_
        show pm_E _ _ _ 75 [(0, .ref 18), (1, .int (iI 0)), (2, .int (iI 0))] [] _ _ _ _
        refine pm_e_sim pm_a200_75 rfl ?_
        refine pm_e_top (y := iI 0) (by decide +kernel) ?_
        show pm_E _ _ _ 76 [(0, .ref 18), (1, .int (iI 0)), (2, .int (iI 0))] [.int (iI 0)] _ _ _ _
        refine pm_e_sim pm_a200_76 rfl ?_
        show pm_E _ _ _ 77 [(0, .ref 18), (1, .int (iI 0)), (2, .int (iI 0)), (3, .int (iI 0))] [] _ _ _ _
        exact M_numberNow_l (b := 0) (x0 := 0) (lk := 5) (la := 6) hA hr (by omega) (by omega) (Or.inl ⟨rfl, rfl, rfl⟩) ⟨by omega, by omega⟩ (fun r hc => k r (num_0 (by omega) hc)) 601 0 0 (by omega) (by omega) ⟨_, _, ht⟩ (fun j j0 j1 => by omega) (by omega)
      · skip
        show pm_E _ _ _ 39 [(0, .ref 18)] [] _ _ _ _
        refine pm_e_sim pm_a200_39 rfl ?_
        show pm_E _ _ _ 40 [(0, .ref 18)] [.ref 18] _ _ _ _
        refine pm_i_get pm_a200_40 rfl (mh_get (j := 0) hA rfl) rfl ?_
        show pm_E _ _ _ 43 [(0, .ref 18)] [.ref 22] _ _ _ _
        refine pm_e_sim pm_a200_43 rfl ?_
        refine pm_e_top (y := iI 0) (by decide +kernel) ?_
        show pm_E _ _ _ 44 [(0, .ref 18)] [.int (iI 0), .ref 22] _ _ _ _
        refine pm_i_ald pm_a200_44 (mh_get (j := 4) hA rfl) (by omega) (by omega) ⟨by omega, by omega⟩ ?_
        show pm_E _ _ _ 45 [(0, .ref 18)] [.int (iI ((a 4) (0)))] _ _ _ _
        have := hr (0)
        refine pm_e_sim pm_a200_45 rfl ?_
        refine pm_e_top (y := iI 1) (by decide +kernel) ?_
        show pm_E _ _ _ 46 [(0, .ref 18)] [.int (iI 1), .int (iI ((a 4) (0)))] _ _ _ _
        refine pm_c_ne (t := 63) pm_a200_46 rfl ⟨by omega, by omega⟩ ⟨by omega, by omega⟩ (fun h_7 => ?_) (fun h_7 => ?_)
        · skip
          show pm_E _ _ _ 63 [(0, .ref 18)] [] _ _ _ _
          refine pm_e_sim pm_a200_63 rfl ?_
          refine pm_e_top (y := iI 0) (by decide +kernel) ?_
          show pm_E _ _ _ 64 [(0, .ref 18)] [.int (iI 0)] _ _ _ _
          refine pm_e_sim pm_a200_64 rfl ?_
          show pm_E _ _ _ 65 [(0, .ref 18), (1, .int (iI 0))] [] _ _ _ _
          refine pm_e_sim pm_a200_65 rfl ?_
          show pm_E _ _ _ 66 [(0, .ref 18), (1, .int (iI 0))] [.int (iI 0)] _ _ _ _
          refine pm_e_ift pm_a200_66 rfl (by decide +kernel) ?_
          show pm_E _ _ _ 73 [(0, .ref 18), (1, .int (iI 0))] [] _ _ _ _
          refine pm_e_sim pm_a200_73 rfl ?_
          refine pm_e_top (y := iI 0) (by decide +kernel) ?_
          show pm_E _ _ _ 74 [(0, .ref 18), (1, .int (iI 0))] [.int (iI 0)] _ _ _ _
          refine pm_e_sim pm_a200_74 rfl ?_
          show pm_E _ _ _ 75 [(0, .ref 18), (1, .int (iI 0)), (2, .int (iI 0))] [] _ _ _ _
          refine pm_e_sim pm_a200_75 rfl ?_
          refine pm_e_top (y := iI 0) (by decide +kernel) ?_
          show pm_E _ _ _ 76 [(0, .ref 18), (1, .int (iI 0)), (2, .int (iI 0))] [.int (iI 0)] _ _ _ _
          refine pm_e_sim pm_a200_76 rfl ?_
          show pm_E _ _ _ 77 [(0, .ref 18), (1, .int (iI 0)), (2, .int (iI 0)), (3, .int (iI 0))] [] _ _ _ _
          exact M_numberNow_l (b := 0) (x0 := 0) (lk := 5) (la := 6) hA hr (by omega) (by omega) (Or.inl ⟨rfl, rfl, rfl⟩) ⟨by omega, by omega⟩ (fun r hc => k r (num_0 (by omega) hc)) 601 0 0 (by omega) (by omega) ⟨_, _, ht⟩ (fun j j0 j1 => by omega) (by omega)
        · skip
          show pm_E _ _ _ 49 [(0, .ref 18)] [] _ _ _ _
          refine pm_e_sim pm_a200_49 rfl ?_
          show pm_E _ _ _ 50 [(0, .ref 18)] [.ref 18] _ _ _ _
          refine pm_i_get pm_a200_50 rfl (mh_get (j := 0) hA rfl) rfl ?_
          show pm_E _ _ _ 53 [(0, .ref 18)] [.ref 22] _ _ _ _
          refine pm_e_sim pm_a200_53 rfl ?_
          refine pm_e_top (y := iI 1) (by decide +kernel) ?_
          show pm_E _ _ _ 54 [(0, .ref 18)] [.int (iI 1), .ref 22] _ _ _ _
          refine pm_i_ald pm_a200_54 (mh_get (j := 4) hA rfl) (by omega) (by omega) ⟨by omega, by omega⟩ ?_
          show pm_E _ _ _ 55 [(0, .ref 18)] [.int (iI ((a 4) (1)))] _ _ _ _
          have := hr (1)
          refine pm_e_sim pm_a200_55 rfl ?_
          refine pm_e_top (y := iI 1) (by decide +kernel) ?_
          show pm_E _ _ _ 56 [(0, .ref 18)] [.int (iI 1), .int (iI ((a 4) (1)))] _ _ _ _
          refine pm_c_ne (t := 63) pm_a200_56 rfl ⟨by omega, by omega⟩ ⟨by omega, by omega⟩ (fun h_8 => ?_) (fun h_8 => ?_)
          · skip
            show pm_E _ _ _ 63 [(0, .ref 18)] [] _ _ _ _
            refine pm_e_sim pm_a200_63 rfl ?_
            refine pm_e_top (y := iI 0) (by decide +kernel) ?_
            show pm_E _ _ _ 64 [(0, .ref 18)] [.int (iI 0)] _ _ _ _
            refine pm_e_sim pm_a200_64 rfl ?_
            show pm_E _ _ _ 65 [(0, .ref 18), (1, .int (iI 0))] [] _ _ _ _
            refine pm_e_sim pm_a200_65 rfl ?_
            show pm_E _ _ _ 66 [(0, .ref 18), (1, .int (iI 0))] [.int (iI 0)] _ _ _ _
            refine pm_e_ift pm_a200_66 rfl (by decide +kernel) ?_
            show pm_E _ _ _ 73 [(0, .ref 18), (1, .int (iI 0))] [] _ _ _ _
            refine pm_e_sim pm_a200_73 rfl ?_
            refine pm_e_top (y := iI 0) (by decide +kernel) ?_
            show pm_E _ _ _ 74 [(0, .ref 18), (1, .int (iI 0))] [.int (iI 0)] _ _ _ _
            refine pm_e_sim pm_a200_74 rfl ?_
            show pm_E _ _ _ 75 [(0, .ref 18), (1, .int (iI 0)), (2, .int (iI 0))] [] _ _ _ _
            refine pm_e_sim pm_a200_75 rfl ?_
            refine pm_e_top (y := iI 0) (by decide +kernel) ?_
            show pm_E _ _ _ 76 [(0, .ref 18), (1, .int (iI 0)), (2, .int (iI 0))] [.int (iI 0)] _ _ _ _
            refine pm_e_sim pm_a200_76 rfl ?_
            show pm_E _ _ _ 77 [(0, .ref 18), (1, .int (iI 0)), (2, .int (iI 0)), (3, .int (iI 0))] [] _ _ _ _
            exact M_numberNow_l (b := 0) (x0 := 0) (lk := 5) (la := 6) hA hr (by omega) (by omega) (Or.inl ⟨rfl, rfl, rfl⟩) ⟨by omega, by omega⟩ (fun r hc => k r (num_0 (by omega) hc)) 601 0 0 (by omega) (by omega) ⟨_, _, ht⟩ (fun j j0 j1 => by omega) (by omega)
          · skip
            show pm_E _ _ _ 59 [(0, .ref 18)] [] _ _ _ _
            refine pm_e_sim pm_a200_59 rfl ?_
            refine pm_e_top (y := iI 1) (by decide +kernel) ?_
            show pm_E _ _ _ 60 [(0, .ref 18)] [.int (iI 1)] _ _ _ _
            refine pm_e_goto pm_a200_60 rfl ?_
            show pm_E _ _ _ 64 [(0, .ref 18)] [.int (iI 1)] _ _ _ _
            refine pm_e_sim pm_a200_64 rfl ?_
            show pm_E _ _ _ 65 [(0, .ref 18), (1, .int (iI 1))] [] _ _ _ _
            refine pm_e_sim pm_a200_65 rfl ?_
            show pm_E _ _ _ 66 [(0, .ref 18), (1, .int (iI 1))] [.int (iI 1)] _ _ _ _
            refine pm_e_iff pm_a200_66 rfl (by decide +kernel) ?_
            show pm_E _ _ _ 69 [(0, .ref 18), (1, .int (iI 1))] [] _ _ _ _
            refine pm_e_sim pm_a200_69 rfl ?_
            refine pm_e_top (y := iI 2) (by decide +kernel) ?_
            show pm_E _ _ _ 70 [(0, .ref 18), (1, .int (iI 1))] [.int (iI 2)] _ _ _ _
            refine pm_e_goto pm_a200_70 rfl ?_
            show pm_E _ _ _ 74 [(0, .ref 18), (1, .int (iI 1))] [.int (iI 2)] _ _ _ _
            refine pm_e_sim pm_a200_74 rfl ?_
            show pm_E _ _ _ 75 [(0, .ref 18), (1, .int (iI 1)), (2, .int (iI 2))] [] _ _ _ _
            refine pm_e_sim pm_a200_75 rfl ?_
            refine pm_e_top (y := iI 0) (by decide +kernel) ?_
            show pm_E _ _ _ 76 [(0, .ref 18), (1, .int (iI 1)), (2, .int (iI 2))] [.int (iI 0)] _ _ _ _
            refine pm_e_sim pm_a200_76 rfl ?_
            show pm_E _ _ _ 77 [(0, .ref 18), (1, .int (iI 1)), (2, .int (iI 2)), (3, .int (iI 0))] [] _ _ _ _
            obtain ⟨f2, t2⟩ := num_t2 ht (by omega) (by omega)
            exact M_numberNow_l (b := 1) (x0 := 2) (lk := 11) (la := 10) hA hr (by omega) (by omega) (Or.inr ⟨rfl, rfl, rfl⟩) ⟨by omega, by omega⟩ (fun r hc => k r (Or.inr (Or.inl ⟨by omega, by omega, hc⟩))) 601 2 0 (by omega) (by omega) ⟨_, _, t2⟩ (fun j j0 j1 => by omega) (by omega)
    · skip
      show pm_E _ _ _ 18 [(0, .ref 18)] [] _ _ _ _
      refine pm_e_sim pm_a200_18 rfl ?_
      show pm_E _ _ _ 19 [(0, .ref 18)] [.ref 18] _ _ _ _
      refine pm_i_get pm_a200_19 rfl (mh_get (j := 0) hA rfl) rfl ?_
      show pm_E _ _ _ 22 [(0, .ref 18)] [.ref 22] _ _ _ _
      refine pm_e_sim pm_a200_22 rfl ?_
      refine pm_e_top (y := iI 1) (by decide +kernel) ?_
      show pm_E _ _ _ 23 [(0, .ref 18)] [.int (iI 1), .ref 22] _ _ _ _
      refine pm_i_ald pm_a200_23 (mh_get (j := 4) hA rfl) (by omega) (by omega) ⟨by omega, by omega⟩ ?_
      show pm_E _ _ _ 24 [(0, .ref 18)] [.int (iI ((a 4) (1)))] _ _ _ _
      have := hr (1)
      refine pm_e_sim pm_a200_24 rfl ?_
      refine pm_e_top (y := iI 10) (by decide +kernel) ?_
      show pm_E _ _ _ 26 [(0, .ref 18)] [.int (iI 10), .int (iI ((a 4) (1)))] _ _ _ _
      refine pm_c_ne (t := 31) pm_a200_26 rfl ⟨by omega, by omega⟩ ⟨by omega, by omega⟩ (fun h_9 => ?_) (fun h_9 => ?_)
      · skip
        show pm_E _ _ _ 31 [(0, .ref 18)] [] _ _ _ _
        refine pm_e_sim pm_a200_31 rfl ?_
        show pm_E _ _ _ 32 [(0, .ref 18)] [.ref 18] _ _ _ _
        refine pm_i_get pm_a200_32 rfl (mh_get (j := 0) hA rfl) rfl ?_
        show pm_E _ _ _ 35 [(0, .ref 18)] [.int (iI (s 6))] _ _ _ _
        refine pm_e_sim pm_a200_35 rfl ?_
        refine pm_e_top (y := iI 2) (by decide +kernel) ?_
        show pm_E _ _ _ 36 [(0, .ref 18)] [.int (iI 2), .int (iI (s 6))] _ _ _ _
        refine pm_c_le (t := 63) pm_a200_36 rfl ⟨by omega, by omega⟩ ⟨by omega, by omega⟩ (fun h_10 => ?_) (fun h_10 => ?_)
        · skip
          show pm_E _ _ _ 63 [(0, .ref 18)] [] _ _ _ _
          refine pm_e_sim pm_a200_63 rfl ?_
          refine pm_e_top (y := iI 0) (by decide +kernel) ?_
          show pm_E _ _ _ 64 [(0, .ref 18)] [.int (iI 0)] _ _ _ _
          refine pm_e_sim pm_a200_64 rfl ?_
          show pm_E _ _ _ 65 [(0, .ref 18), (1, .int (iI 0))] [] _ _ _ _
          refine pm_e_sim pm_a200_65 rfl ?_
          show pm_E _ _ _ 66 [(0, .ref 18), (1, .int (iI 0))] [.int (iI 0)] _ _ _ _
          refine pm_e_ift pm_a200_66 rfl (by decide +kernel) ?_
          show pm_E _ _ _ 73 [(0, .ref 18), (1, .int (iI 0))] [] _ _ _ _
          refine pm_e_sim pm_a200_73 rfl ?_
          refine pm_e_top (y := iI 0) (by decide +kernel) ?_
          show pm_E _ _ _ 74 [(0, .ref 18), (1, .int (iI 0))] [.int (iI 0)] _ _ _ _
          refine pm_e_sim pm_a200_74 rfl ?_
          show pm_E _ _ _ 75 [(0, .ref 18), (1, .int (iI 0)), (2, .int (iI 0))] [] _ _ _ _
          refine pm_e_sim pm_a200_75 rfl ?_
          refine pm_e_top (y := iI 0) (by decide +kernel) ?_
          show pm_E _ _ _ 76 [(0, .ref 18), (1, .int (iI 0)), (2, .int (iI 0))] [.int (iI 0)] _ _ _ _
          refine pm_e_sim pm_a200_76 rfl ?_
          show pm_E _ _ _ 77 [(0, .ref 18), (1, .int (iI 0)), (2, .int (iI 0)), (3, .int (iI 0))] [] _ _ _ _
          exact M_numberNow_l (b := 0) (x0 := 0) (lk := 5) (la := 6) hA hr (by omega) (by omega) (Or.inl ⟨rfl, rfl, rfl⟩) ⟨by omega, by omega⟩ (fun r hc => k r (num_0 (by omega) hc)) 601 0 0 (by omega) (by omega) ⟨_, _, ht⟩ (fun j j0 j1 => by omega) (by omega)
        · skip
          show pm_E _ _ _ 39 [(0, .ref 18)] [] _ _ _ _
          refine pm_e_sim pm_a200_39 rfl ?_
          show pm_E _ _ _ 40 [(0, .ref 18)] [.ref 18] _ _ _ _
          refine pm_i_get pm_a200_40 rfl (mh_get (j := 0) hA rfl) rfl ?_
          show pm_E _ _ _ 43 [(0, .ref 18)] [.ref 22] _ _ _ _
          refine pm_e_sim pm_a200_43 rfl ?_
          refine pm_e_top (y := iI 0) (by decide +kernel) ?_
          show pm_E _ _ _ 44 [(0, .ref 18)] [.int (iI 0), .ref 22] _ _ _ _
          refine pm_i_ald pm_a200_44 (mh_get (j := 4) hA rfl) (by omega) (by omega) ⟨by omega, by omega⟩ ?_
          show pm_E _ _ _ 45 [(0, .ref 18)] [.int (iI ((a 4) (0)))] _ _ _ _
          have := hr (0)
          refine pm_e_sim pm_a200_45 rfl ?_
          refine pm_e_top (y := iI 1) (by decide +kernel) ?_
          show pm_E _ _ _ 46 [(0, .ref 18)] [.int (iI 1), .int (iI ((a 4) (0)))] _ _ _ _
          refine pm_c_ne (t := 63) pm_a200_46 rfl ⟨by omega, by omega⟩ ⟨by omega, by omega⟩ (fun h_11 => ?_) (fun h_11 => ?_)
          · skip
            show pm_E _ _ _ 63 [(0, .ref 18)] [] _ _ _ _
            refine pm_e_sim pm_a200_63 rfl ?_
            refine pm_e_top (y := iI 0) (by decide +kernel) ?_
            show pm_E _ _ _ 64 [(0, .ref 18)] [.int (iI 0)] _ _ _ _
            refine pm_e_sim pm_a200_64 rfl ?_
            show pm_E _ _ _ 65 [(0, .ref 18), (1, .int (iI 0))] [] _ _ _ _
            refine pm_e_sim pm_a200_65 rfl ?_
            show pm_E _ _ _ 66 [(0, .ref 18), (1, .int (iI 0))] [.int (iI 0)] _ _ _ _
            refine pm_e_ift pm_a200_66 rfl (by decide +kernel) ?_
            show pm_E _ _ _ 73 [(0, .ref 18), (1, .int (iI 0))] [] _ _ _ _
            refine pm_e_sim pm_a200_73 rfl ?_
            refine pm_e_top (y := iI 0) (by decide +kernel) ?_
            show pm_E _ _ _ 74 [(0, .ref 18), (1, .int (iI 0))] [.int (iI 0)] _ _ _ _
            refine pm_e_sim pm_a200_74 rfl ?_
            show pm_E _ _ _ 75 [(0, .ref 18), (1, .int (iI 0)), (2, .int (iI 0))] [] _ _ _ _
            refine pm_e_sim pm_a200_75 rfl ?_
            refine pm_e_top (y := iI 0) (by decide +kernel) ?_
            show pm_E _ _ _ 76 [(0, .ref 18), (1, .int (iI 0)), (2, .int (iI 0))] [.int (iI 0)] _ _ _ _
            refine pm_e_sim pm_a200_76 rfl ?_
            show pm_E _ _ _ 77 [(0, .ref 18), (1, .int (iI 0)), (2, .int (iI 0)), (3, .int (iI 0))] [] _ _ _ _
            exact M_numberNow_l (b := 0) (x0 := 0) (lk := 5) (la := 6) hA hr (by omega) (by omega) (Or.inl ⟨rfl, rfl, rfl⟩) ⟨by omega, by omega⟩ (fun r hc => k r (num_0 (by omega) hc)) 601 0 0 (by omega) (by omega) ⟨_, _, ht⟩ (fun j j0 j1 => by omega) (by omega)
          · skip
            show pm_E _ _ _ 49 [(0, .ref 18)] [] _ _ _ _
            refine pm_e_sim pm_a200_49 rfl ?_
            show pm_E _ _ _ 50 [(0, .ref 18)] [.ref 18] _ _ _ _
            refine pm_i_get pm_a200_50 rfl (mh_get (j := 0) hA rfl) rfl ?_
            show pm_E _ _ _ 53 [(0, .ref 18)] [.ref 22] _ _ _ _
            refine pm_e_sim pm_a200_53 rfl ?_
            refine pm_e_top (y := iI 1) (by decide +kernel) ?_
            show pm_E _ _ _ 54 [(0, .ref 18)] [.int (iI 1), .ref 22] _ _ _ _
            refine pm_i_ald pm_a200_54 (mh_get (j := 4) hA rfl) (by omega) (by omega) ⟨by omega, by omega⟩ ?_
            show pm_E _ _ _ 55 [(0, .ref 18)] [.int (iI ((a 4) (1)))] _ _ _ _
            have := hr (1)
            refine pm_e_sim pm_a200_55 rfl ?_
            refine pm_e_top (y := iI 1) (by decide +kernel) ?_
            show pm_E _ _ _ 56 [(0, .ref 18)] [.int (iI 1), .int (iI ((a 4) (1)))] _ _ _ _
            refine pm_c_ne (t := 63) pm_a200_56 rfl ⟨by omega, by omega⟩ ⟨by omega, by omega⟩ (fun h_12 => ?_) (fun h_12 => ?_)
            · skip
              show pm_E _ _ _ 63 [(0, .ref 18)] [] _ _ _ _
              refine pm_e_sim pm_a200_63 rfl ?_
              refine pm_e_top (y := iI 0) (by decide +kernel) ?_
              show pm_E _ _ _ 64 [(0, .ref 18)] [.int (iI 0)] _ _ _ _
              refine pm_e_sim pm_a200_64 rfl ?_
              show pm_E _ _ _ 65 [(0, .ref 18), (1, .int (iI 0))] [] _ _ _ _
              refine pm_e_sim pm_a200_65 rfl ?_
              show pm_E _ _ _ 66 [(0, .ref 18), (1, .int (iI 0))] [.int (iI 0)] _ _ _ _
              refine pm_e_ift pm_a200_66 rfl (by decide +kernel) ?_
              show pm_E _ _ _ 73 [(0, .ref 18), (1, .int (iI 0))] [] _ _ _ _
              refine pm_e_sim pm_a200_73 rfl ?_
              refine pm_e_top (y := iI 0) (by decide +kernel) ?_
              show pm_E _ _ _ 74 [(0, .ref 18), (1, .int (iI 0))] [.int (iI 0)] _ _ _ _
              refine pm_e_sim pm_a200_74 rfl ?_
              show pm_E _ _ _ 75 [(0, .ref 18), (1, .int (iI 0)), (2, .int (iI 0))] [] _ _ _ _
              refine pm_e_sim pm_a200_75 rfl ?_
              refine pm_e_top (y := iI 0) (by decide +kernel) ?_
              show pm_E _ _ _ 76 [(0, .ref 18), (1, .int (iI 0)), (2, .int (iI 0))] [.int (iI 0)] _ _ _ _
              refine pm_e_sim pm_a200_76 rfl ?_
              show pm_E _ _ _ 77 [(0, .ref 18), (1, .int (iI 0)), (2, .int (iI 0)), (3, .int (iI 0))] [] _ _ _ _
              exact M_numberNow_l (b := 0) (x0 := 0) (lk := 5) (la := 6) hA hr (by omega) (by omega) (Or.inl ⟨rfl, rfl, rfl⟩) ⟨by omega, by omega⟩ (fun r hc => k r (num_0 (by omega) hc)) 601 0 0 (by omega) (by omega) ⟨_, _, ht⟩ (fun j j0 j1 => by omega) (by omega)
            · skip
              show pm_E _ _ _ 59 [(0, .ref 18)] [] _ _ _ _
              refine pm_e_sim pm_a200_59 rfl ?_
              refine pm_e_top (y := iI 1) (by decide +kernel) ?_
              show pm_E _ _ _ 60 [(0, .ref 18)] [.int (iI 1)] _ _ _ _
              refine pm_e_goto pm_a200_60 rfl ?_
              show pm_E _ _ _ 64 [(0, .ref 18)] [.int (iI 1)] _ _ _ _
              refine pm_e_sim pm_a200_64 rfl ?_
              show pm_E _ _ _ 65 [(0, .ref 18), (1, .int (iI 1))] [] _ _ _ _
              refine pm_e_sim pm_a200_65 rfl ?_
              show pm_E _ _ _ 66 [(0, .ref 18), (1, .int (iI 1))] [.int (iI 1)] _ _ _ _
              refine pm_e_iff pm_a200_66 rfl (by decide +kernel) ?_
              show pm_E _ _ _ 69 [(0, .ref 18), (1, .int (iI 1))] [] _ _ _ _
              refine pm_e_sim pm_a200_69 rfl ?_
              refine pm_e_top (y := iI 2) (by decide +kernel) ?_
              show pm_E _ _ _ 70 [(0, .ref 18), (1, .int (iI 1))] [.int (iI 2)] _ _ _ _
              refine pm_e_goto pm_a200_70 rfl ?_
              show pm_E _ _ _ 74 [(0, .ref 18), (1, .int (iI 1))] [.int (iI 2)] _ _ _ _
              refine pm_e_sim pm_a200_74 rfl ?_
              show pm_E _ _ _ 75 [(0, .ref 18), (1, .int (iI 1)), (2, .int (iI 2))] [] _ _ _ _
              refine pm_e_sim pm_a200_75 rfl ?_
              refine pm_e_top (y := iI 0) (by decide +kernel) ?_
              show pm_E _ _ _ 76 [(0, .ref 18), (1, .int (iI 1)), (2, .int (iI 2))] [.int (iI 0)] _ _ _ _
              refine pm_e_sim pm_a200_76 rfl ?_
              show pm_E _ _ _ 77 [(0, .ref 18), (1, .int (iI 1)), (2, .int (iI 2)), (3, .int (iI 0))] [] _ _ _ _
              obtain ⟨f2, t2⟩ := num_t2 ht (by omega) (by omega)
              exact M_numberNow_l (b := 1) (x0 := 2) (lk := 11) (la := 10) hA hr (by omega) (by omega) (Or.inr ⟨rfl, rfl, rfl⟩) ⟨by omega, by omega⟩ (fun r hc => k r (Or.inr (Or.inl ⟨by omega, by omega, hc⟩))) 601 2 0 (by omega) (by omega) ⟨_, _, t2⟩ (fun j j0 j1 => by omega) (by omega)
      · skip
        show pm_E _ _ _ 29 [(0, .ref 18)] [] _ _ _ _
        refine pm_e_sim pm_a200_29 rfl ?_
        refine pm_e_top (y := iI 1) (by decide +kernel) ?_
        show pm_E _ _ _ 30 [(0, .ref 18)] [.int (iI 1)] _ _ _ _
        refine pm_e_ret pm_a200_30 rfl rfl rfl rfl rfl rfl rfl rfl ?_
        exact k _ (Or.inr (Or.inr ⟨by omega, by omega, Or.inl ⟨by omega, rfl⟩⟩))
set_option maxHeartbeats 4000000 in
set_option maxRecDepth 100000 in
theorem M_number {d : Nat} {A B : List va_E} {s : Nat → Int} {vl : Int64} {a : Nat → Int → Int} {nm : Nat → Int64} {Q : Option Value → List va_E → Nat → Nat → Prop} {n x : Int} {T : Int → List Int} (hA : A.length = 18) (hin : ∀ i j, in32 (a i j)) (hok : okT n T) (hsh : sh s a n T) (hx : in32 x) (kb : (x < 0 ∨ n ≤ x) → Q (some (.int (iI (-1)))) (mh A s vl a nm B) 0 0) (k : 0 ≤ x → x < n → ∀ r s' a', (∃ g : Int → Int, rg g (T x).length 0 = T x ∧ nbR g (T x).length r) → s' 0 = s 0 → (s' 4 = s 4 ∧ s' 45 = s 45 ∧ s' 30 = s 30 ∧ s' 31 = s 31 ∧ s' 13 = s 13) → a' 1 = a 1 → a' 2 = a 2 → a' 3 = a 3 → Q (some (.int (iI r))) (mh A s' vl a' nm B) 0 0) : pm_E none (d + 2) pm_mm199 0 [(0, .ref 18), (1, .int (iI x))] [] (mh A s vl a nm B) 0 0 Q := by
  obtain ⟨on0, on1, okk⟩ := id hok
  have s0 := hsh.1
  refine pm_e_sim pm_a199_0 rfl ?_
  show pm_E _ _ _ 1 [(0, .ref 18), (1, .int (iI x))] [.ref 18] _ _ _ _
  refine pm_e_sim pm_a199_1 rfl ?_
  show pm_E _ _ _ 2 [(0, .ref 18), (1, .int (iI x))] [.int (iI x), .ref 18] _ _ _ _
  refine pm_i_callv (k := 18) (T2 := pm_mm165) pm_a199_2 rfl rfl rfl (mh_get (j := 0) hA rfl) ⟨Nat.le_of_ble_eq_true rfl, Nat.le_of_ble_eq_true rfl, rfl, by decide +kernel⟩ ?_
  show pm_E none _ _ 0 [(0, .ref 18), (1, .int (iI x))] [] _ _ _ _
  refine M_isTerm hA ⟨by omega, by omega⟩ (by omega) (by omega) (fun h_1 => ?_) (fun h_1 => ?_)
  · skip
    show pm_E _ _ _ 5 [(0, .ref 18), (1, .int (iI x))] [.int (iI 1)] _ _ _ _
    refine pm_e_ift pm_a199_5 rfl (by decide +kernel) ?_
    show pm_E _ _ _ 10 [(0, .ref 18), (1, .int (iI x))] [] _ _ _ _
    refine pm_e_sim pm_a199_10 rfl ?_
    show pm_E _ _ _ 11 [(0, .ref 18), (1, .int (iI x))] [.ref 18] _ _ _ _
    refine pm_e_sim pm_a199_11 rfl ?_
    show pm_E _ _ _ 12 [(0, .ref 18), (1, .int (iI x))] [.int (iI x), .ref 18] _ _ _ _
    refine pm_i_callv (k := 18) (T2 := pm_mm168) pm_a199_12 rfl rfl rfl (mh_get (j := 0) hA rfl) ⟨Nat.le_of_ble_eq_true rfl, Nat.le_of_ble_eq_true rfl, rfl, by decide +kernel⟩ ?_
    show pm_E none _ _ 0 [(0, .ref 18), (1, .int (iI x))] [] _ _ _ _
    obtain ⟨tl, ft, tt⟩ := hok.2.2 x (by omega) (by omega)
    have tp := tL_pos tt
    have ts := (hsh.2 x (by omega) (by omega)).1
    have tk := sh_take hsh (x := x) (by omega) (by omega)
    refine M_take hA (by omega) (by omega) (by omega) (by omega) (fun s1 a1 es ea => ?_)
    have e6 : s1 6 = (T x).length := by rw [es, ← ts]; rfl
    have t1 : tm (a1 4) ft 0 0 (s1 6) := by rw [e6, ea]; exact tL_tm0 tt tk
    have hr1 : ∀ j, in32 (a1 4 j) := fun j => by rw [ea]; exact cpI_in (hin 4) (hin 2) j
    have g1 : rg (a1 4) (T x).length 0 = T x := by rw [ea]; exact tk
    show pm_E _ _ _ 15 [(0, .ref 18), (1, .int (iI x))] [] _ _ _ _
    refine pm_e_sim pm_a199_15 rfl ?_
    show pm_E _ _ _ 16 [(0, .ref 18), (1, .int (iI x))] [.ref 18] _ _ _ _
    refine pm_i_callv (k := 18) (T2 := pm_mm200) pm_a199_16 rfl rfl rfl (mh_get (j := 0) hA rfl) ⟨Nat.le_of_ble_eq_true rfl, Nat.le_of_ble_eq_true rfl, rfl, by decide +kernel⟩ ?_
    show pm_E none _ _ 0 [(0, .ref 18)] [] _ _ _ _
    refine M_numberNow hA hr1 (by omega) (by omega) t1 (fun r hnr => ?_)
    show pm_E _ _ _ 19 [(0, .ref 18), (1, .int (iI x))] [.int (iI r)] _ _ _ _
    refine pm_e_ret pm_a199_19 rfl rfl rfl rfl rfl rfl rfl rfl ?_
    exact k (by omega) (by omega) r s1 a1 ⟨a1 4, g1, by rw [← e6]; exact hnr⟩ (by rw [es]; rfl) ⟨by rw [es]; rfl, by rw [es]; rfl, by rw [es]; rfl, by rw [es]; rfl, by rw [es]; rfl⟩ (by rw [ea]; rfl) (by rw [ea]; rfl) (by rw [ea]; rfl)
  · skip
    show pm_E _ _ _ 5 [(0, .ref 18), (1, .int (iI x))] [.int (iI 0)] _ _ _ _
    refine pm_e_iff pm_a199_5 rfl (by decide +kernel) ?_
    show pm_E _ _ _ 8 [(0, .ref 18), (1, .int (iI x))] [] _ _ _ _
    refine pm_e_sim pm_a199_8 rfl ?_
    refine pm_e_top (y := iI (-1)) (by decide +kernel) ?_
    show pm_E _ _ _ 9 [(0, .ref 18), (1, .int (iI x))] [.int (iI (-1))] _ _ _ _
    refine pm_e_ret pm_a199_9 rfl rfl rfl rfl rfl rfl rfl rfl ?_
    exact kb (by omega)
