/-! THE REFERENCE: isFinite: a rank, or nothing solves the kinds -/
set_option maxHeartbeats 4000000 in
set_option maxRecDepth 100000 in
theorem M_isFin_2T {d : Nat} {A B : List va_E} {vl : Int64} {nm : Nat → Int64} {Q : Option Value → List va_E → Nat → Nat → Prop} {s : Nat → Int} {a0 : Nat → Int → Int} {rt : Int → Int} {i : Int} {Zp : Int → Prop} (hA : A.length = 18) (hG : GS (a0 17) (a0 18) (a0 19) (s 32) rt) (hK : s 32 ≤ 6000) : ∀ (f : Nat) (w : Int) (a : Nat → Int → Int), 0 ≤ w → (∀ j, j ≠ 22 → j ≠ 23 → a j = a0 j) → (∀ j, 0 ≤ j → j < s 32 → 0 ≤ a 22 j ∧ a 22 j ≤ 2) → (∀ j, 0 ≤ j → j < w → 0 ≤ a 23 j ∧ a 23 j < s 32) → w + cn0 (a 22) (s 32).toNat ≤ s 32 → DF (s 32) (a 18) (a 19) rt (a 22) (a 23) w → (∀ j, Zp j → a 22 j ≠ 0) → (∀ (a : Nat → Int → Int), (∀ j, j ≠ 22 → j ≠ 23 → a j = a0 j) → (∀ j, 0 ≤ j → j < s 32 → 0 ≤ a 22 j ∧ a 22 j ≤ 2) → DF (s 32) (a 18) (a 19) rt (a 22) (a 23) 0 → (∀ j, Zp j → a 22 j ≠ 0) → ∀ w', pm_E none (d + 1) pm_mm209 247 [(0, .ref 18), (1, .int (iI i)), (2, .int (iI (w')))] [] (mh A s vl a nm B) 0 0 Q) → (∀ (a : Nat → Int → Int), (∀ j, j ≠ 22 → j ≠ 23 → a j = a0 j) → (∀ t, ¬ SOL (s 32) (-4) (a0 18) (a0 19) rt t) → Q (some (.int (iI 0))) (mh A s vl a nm B) 0 0) → 2 * cn0 (a 22) (s 32).toNat + w < (f : Int) → pm_E none (d + 1) pm_mm209 73 [(0, .ref 18), (1, .int (iI i)), (2, .int (iI w))] [] (mh A s vl a nm B) 0 0 Q := by
  intro f
  induction f with
  | zero =>
    intro w a h0 fA hmk hpt hwc hD hzp k kf hf
    have hc9 := cn0_le (B := a 22) (n := (s 32).toNat)
    exfalso; omega
  | succ f ih =>
    intro w a h0 fA hmk hpt hwc hD hzp k kf hf
    have hF := hG.1
    have hK0 := hF.1
    have e17 : a 17 = a0 17 := fA 17 (by omega) (by omega)
    have e18 : a 18 = a0 18 := fA 18 (by omega) (by omega)
    have e19 : a 19 = a0 19 := fA 19 (by omega) (by omega)
    have hGa : GS (a 17) (a 18) (a 19) (s 32) rt := by rw [e17, e18, e19]; exact hG
    have hFa := hGa.1
    have hra := GI_rg hGa.2.2
    have hrc : ∀ k, 0 ≤ k → k < s 32 → a 18 k ≠ -4 → (0 ≤ rt (a 18 k) ∧ rt (a 18 k) < s 32) ∧ (0 ≤ rt (a 19 k) ∧ rt (a 19 k) < s 32) := fun k z y c => ⟨hra.1 _ (hra.2 k z y c).1.1 (hra.2 k z y c).1.2, hra.1 _ (hra.2 k z y c).2.1 (hra.2 k z y c).2.2⟩
    have hc9 := cn0_le (B := a 22) (n := (s 32).toNat)
    refine pm_e_sim pm_a209_73 rfl ?_
    show pm_E _ _ _ 74 [(0, .ref 18), (1, .int (iI i)), (2, .int (iI w))] [.int (iI w)] _ _ _ _
    refine pm_i_le (t := 247) pm_a209_74 rfl ⟨by omega, by omega⟩ (fun h_1 => ?_) (fun h_1 => ?_)
    · skip
      show pm_E _ _ _ 247 [(0, .ref 18), (1, .int (iI i)), (2, .int (iI w))] [] _ _ _ _
      exact k a fA hmk (by rw [show (0 : Int) = w by omega]; exact hD) hzp _
    · skip
      show pm_E _ _ _ 77 [(0, .ref 18), (1, .int (iI i)), (2, .int (iI w))] [] _ _ _ _
      refine pm_e_sim pm_a209_77 rfl ?_
      show pm_E _ _ _ 78 [(0, .ref 18), (1, .int (iI i)), (2, .int (iI w))] [.ref 18] _ _ _ _
      refine pm_i_get pm_a209_78 rfl (mh_get (j := 0) hA rfl) rfl ?_
      show pm_E _ _ _ 81 [(0, .ref 18), (1, .int (iI i)), (2, .int (iI w))] [.ref 41] _ _ _ _
      refine pm_e_sim pm_a209_81 rfl ?_
      show pm_E _ _ _ 82 [(0, .ref 18), (1, .int (iI i)), (2, .int (iI w))] [.int (iI w), .ref 41] _ _ _ _
      refine pm_e_sim pm_a209_82 rfl ?_
      refine pm_e_top (y := iI 1) (by decide +kernel) ?_
      show pm_E _ _ _ 83 [(0, .ref 18), (1, .int (iI i)), (2, .int (iI w))] [.int (iI 1), .int (iI w), .ref 41] _ _ _ _
      refine pm_e_sim pm_a209_83 rfl ?_
      refine pm_e_top (y := iI (w - 1)) (iI_sub _ _) ?_
      show pm_E _ _ _ 84 [(0, .ref 18), (1, .int (iI i)), (2, .int (iI w))] [.int (iI (w - 1)), .ref 41] _ _ _ _
      have hp1 := hpt (w - 1) (by omega) (by omega)
      have hl1 := (hFa.2.1 (a 23 (w - 1)) (by omega) (by omega)).2
      refine pm_i_ald pm_a209_84 (mh_get (j := 23) hA rfl) (by omega) (by omega) ⟨by omega, by omega⟩ ?_
      show pm_E _ _ _ 85 [(0, .ref 18), (1, .int (iI i)), (2, .int (iI w))] [.int (iI ((a 23) (w - 1)))] _ _ _ _
      refine pm_e_sim pm_a209_85 rfl ?_
      show pm_E _ _ _ 86 [(0, .ref 18), (1, .int (iI i)), (2, .int (iI w)), (3, .int (iI ((a 23) (w - 1))))] [] _ _ _ _
      refine pm_e_sim pm_a209_86 rfl ?_
      show pm_E _ _ _ 87 [(0, .ref 18), (1, .int (iI i)), (2, .int (iI w)), (3, .int (iI ((a 23) (w - 1))))] [.ref 18] _ _ _ _
      refine pm_i_get pm_a209_87 rfl (mh_get (j := 0) hA rfl) rfl ?_
      show pm_E _ _ _ 90 [(0, .ref 18), (1, .int (iI i)), (2, .int (iI w)), (3, .int (iI ((a 23) (w - 1))))] [.ref 36] _ _ _ _
      refine pm_e_sim pm_a209_90 rfl ?_
      show pm_E _ _ _ 91 [(0, .ref 18), (1, .int (iI i)), (2, .int (iI w)), (3, .int (iI ((a 23) (w - 1))))] [.int (iI ((a 23) (w - 1))), .ref 36] _ _ _ _
      refine pm_i_ald pm_a209_91 (mh_get (j := 18) hA rfl) (by omega) (by omega) ⟨by omega, by omega⟩ ?_
      show pm_E _ _ _ 92 [(0, .ref 18), (1, .int (iI i)), (2, .int (iI w)), (3, .int (iI ((a 23) (w - 1))))] [.int (iI ((a 18) ((a 23) (w - 1))))] _ _ _ _
      refine pm_e_sim pm_a209_92 rfl ?_
      refine pm_e_top (y := iI (-4)) (by decide +kernel) ?_
      show pm_E _ _ _ 94 [(0, .ref 18), (1, .int (iI i)), (2, .int (iI w)), (3, .int (iI ((a 23) (w - 1))))] [.int (iI (-4)), .int (iI ((a 18) ((a 23) (w - 1))))] _ _ _ _
      refine pm_c_ne (t := 102) pm_a209_94 rfl ⟨by omega, by omega⟩ ⟨by omega, by omega⟩ (fun h_2 => ?_) (fun h_2 => ?_)
      · skip
        show pm_E _ _ _ 102 [(0, .ref 18), (1, .int (iI i)), (2, .int (iI w)), (3, .int (iI ((a 23) (w - 1))))] [] _ _ _ _
        refine pm_e_sim pm_a209_102 rfl ?_
        show pm_E _ _ _ 103 [(0, .ref 18), (1, .int (iI i)), (2, .int (iI w)), (3, .int (iI ((a 23) (w - 1))))] [.ref 18] _ _ _ _
        refine pm_e_sim pm_a209_103 rfl ?_
        show pm_E _ _ _ 104 [(0, .ref 18), (1, .int (iI i)), (2, .int (iI w)), (3, .int (iI ((a 23) (w - 1))))] [.ref 18, .ref 18] _ _ _ _
        refine pm_i_get pm_a209_104 rfl (mh_get (j := 0) hA rfl) rfl ?_
        show pm_E _ _ _ 107 [(0, .ref 18), (1, .int (iI i)), (2, .int (iI w)), (3, .int (iI ((a 23) (w - 1))))] [.ref 36, .ref 18] _ _ _ _
        refine pm_e_sim pm_a209_107 rfl ?_
        show pm_E _ _ _ 108 [(0, .ref 18), (1, .int (iI i)), (2, .int (iI w)), (3, .int (iI ((a 23) (w - 1))))] [.int (iI ((a 23) (w - 1))), .ref 36, .ref 18] _ _ _ _
        refine pm_i_ald pm_a209_108 (mh_get (j := 18) hA rfl) (by omega) (by omega) ⟨by omega, by omega⟩ ?_
        show pm_E _ _ _ 109 [(0, .ref 18), (1, .int (iI i)), (2, .int (iI w)), (3, .int (iI ((a 23) (w - 1))))] [.int (iI ((a 18) ((a 23) (w - 1)))), .ref 18] _ _ _ _
        refine pm_i_callv (k := 18) (T2 := pm_mm207) pm_a209_109 rfl rfl rfl (mh_get (j := 0) hA rfl) ⟨Nat.le_of_ble_eq_true rfl, Nat.le_of_ble_eq_true rfl, rfl, by decide +kernel⟩ ?_
        show pm_E none _ _ 0 [(0, .ref 18), (1, .int (iI ((a 18) ((a 23) (w - 1)))))] [] _ _ _ _
        refine M_rootT hA hFa hGa.2.1 (by omega) (by omega) (by omega) (fun r1 e1 p1 q1 z1 => ?_)
        have m1 := hmk r1 p1 q1
        show pm_E _ _ _ 112 [(0, .ref 18), (1, .int (iI i)), (2, .int (iI w)), (3, .int (iI ((a 23) (w - 1))))] [.int (iI r1)] _ _ _ _
        refine pm_e_sim pm_a209_112 rfl ?_
        show pm_E _ _ _ 114 [(0, .ref 18), (1, .int (iI i)), (2, .int (iI w)), (3, .int (iI ((a 23) (w - 1)))), (4, .int (iI r1))] [] _ _ _ _
        refine pm_e_sim pm_a209_114 rfl ?_
        show pm_E _ _ _ 115 [(0, .ref 18), (1, .int (iI i)), (2, .int (iI w)), (3, .int (iI ((a 23) (w - 1)))), (4, .int (iI r1))] [.ref 18] _ _ _ _
        refine pm_i_get pm_a209_115 rfl (mh_get (j := 0) hA rfl) rfl ?_
        show pm_E _ _ _ 118 [(0, .ref 18), (1, .int (iI i)), (2, .int (iI w)), (3, .int (iI ((a 23) (w - 1)))), (4, .int (iI r1))] [.ref 36] _ _ _ _
        refine pm_e_sim pm_a209_118 rfl ?_
        show pm_E _ _ _ 119 [(0, .ref 18), (1, .int (iI i)), (2, .int (iI w)), (3, .int (iI ((a 23) (w - 1)))), (4, .int (iI r1))] [.int (iI ((a 23) (w - 1))), .ref 36] _ _ _ _
        refine pm_i_ald pm_a209_119 (mh_get (j := 18) hA rfl) (by omega) (by omega) ⟨by omega, by omega⟩ ?_
        show pm_E _ _ _ 120 [(0, .ref 18), (1, .int (iI i)), (2, .int (iI w)), (3, .int (iI ((a 23) (w - 1)))), (4, .int (iI r1))] [.int (iI ((a 18) ((a 23) (w - 1))))] _ _ _ _
        refine pm_e_sim pm_a209_120 rfl ?_
        refine pm_e_top (y := iI (-4)) (by decide +kernel) ?_
        show pm_E _ _ _ 122 [(0, .ref 18), (1, .int (iI i)), (2, .int (iI w)), (3, .int (iI ((a 23) (w - 1)))), (4, .int (iI r1))] [.int (iI (-4)), .int (iI ((a 18) ((a 23) (w - 1))))] _ _ _ _
        refine pm_c_ne (t := 130) pm_a209_122 rfl ⟨by omega, by omega⟩ ⟨by omega, by omega⟩ (fun h_3 => ?_) (fun h_3 => ?_)
        · skip
          show pm_E _ _ _ 130 [(0, .ref 18), (1, .int (iI i)), (2, .int (iI w)), (3, .int (iI ((a 23) (w - 1)))), (4, .int (iI r1))] [] _ _ _ _
          refine pm_e_sim pm_a209_130 rfl ?_
          show pm_E _ _ _ 131 [(0, .ref 18), (1, .int (iI i)), (2, .int (iI w)), (3, .int (iI ((a 23) (w - 1)))), (4, .int (iI r1))] [.ref 18] _ _ _ _
          refine pm_e_sim pm_a209_131 rfl ?_
          show pm_E _ _ _ 132 [(0, .ref 18), (1, .int (iI i)), (2, .int (iI w)), (3, .int (iI ((a 23) (w - 1)))), (4, .int (iI r1))] [.ref 18, .ref 18] _ _ _ _
          refine pm_i_get pm_a209_132 rfl (mh_get (j := 0) hA rfl) rfl ?_
          show pm_E _ _ _ 135 [(0, .ref 18), (1, .int (iI i)), (2, .int (iI w)), (3, .int (iI ((a 23) (w - 1)))), (4, .int (iI r1))] [.ref 37, .ref 18] _ _ _ _
          refine pm_e_sim pm_a209_135 rfl ?_
          show pm_E _ _ _ 136 [(0, .ref 18), (1, .int (iI i)), (2, .int (iI w)), (3, .int (iI ((a 23) (w - 1)))), (4, .int (iI r1))] [.int (iI ((a 23) (w - 1))), .ref 37, .ref 18] _ _ _ _
          refine pm_i_ald pm_a209_136 (mh_get (j := 19) hA rfl) (by omega) (by omega) ⟨by omega, by omega⟩ ?_
          show pm_E _ _ _ 137 [(0, .ref 18), (1, .int (iI i)), (2, .int (iI w)), (3, .int (iI ((a 23) (w - 1)))), (4, .int (iI r1))] [.int (iI ((a 19) ((a 23) (w - 1)))), .ref 18] _ _ _ _
          refine pm_i_callv (k := 18) (T2 := pm_mm207) pm_a209_137 rfl rfl rfl (mh_get (j := 0) hA rfl) ⟨Nat.le_of_ble_eq_true rfl, Nat.le_of_ble_eq_true rfl, rfl, by decide +kernel⟩ ?_
          show pm_E none _ _ 0 [(0, .ref 18), (1, .int (iI ((a 19) ((a 23) (w - 1)))))] [] _ _ _ _
          refine M_rootT hA hFa hGa.2.1 (by omega) (by omega) (by omega) (fun r2 e2 p2 q2 z2 => ?_)
          have m2 := hmk r2 p2 q2
          show pm_E _ _ _ 140 [(0, .ref 18), (1, .int (iI i)), (2, .int (iI w)), (3, .int (iI ((a 23) (w - 1)))), (4, .int (iI r1))] [.int (iI r2)] _ _ _ _
          refine pm_e_sim pm_a209_140 rfl ?_
          show pm_E _ _ _ 142 [(0, .ref 18), (1, .int (iI i)), (2, .int (iI w)), (3, .int (iI ((a 23) (w - 1)))), (4, .int (iI r1)), (5, .int (iI r2))] [] _ _ _ _
          refine pm_e_sim pm_a209_142 rfl ?_
          show pm_E _ _ _ 144 [(0, .ref 18), (1, .int (iI i)), (2, .int (iI w)), (3, .int (iI ((a 23) (w - 1)))), (4, .int (iI r1)), (5, .int (iI r2))] [.int (iI r1)] _ _ _ _
          refine pm_e_sim pm_a209_144 rfl ?_
          refine pm_e_top (y := iI (-4)) (by decide +kernel) ?_
          show pm_E _ _ _ 146 [(0, .ref 18), (1, .int (iI i)), (2, .int (iI w)), (3, .int (iI ((a 23) (w - 1)))), (4, .int (iI r1)), (5, .int (iI r2))] [.int (iI (-4)), .int (iI r1)] _ _ _ _
          refine pm_c_eq (t := 165) pm_a209_146 rfl ⟨by omega, by omega⟩ ⟨by omega, by omega⟩ (fun h_4 => ?_) (fun h_4 => ?_)
          · skip
            show pm_E _ _ _ 165 [(0, .ref 18), (1, .int (iI i)), (2, .int (iI w)), (3, .int (iI ((a 23) (w - 1)))), (4, .int (iI r1)), (5, .int (iI r2))] [] _ _ _ _
            refine pm_e_sim pm_a209_165 rfl ?_
            show pm_E _ _ _ 167 [(0, .ref 18), (1, .int (iI i)), (2, .int (iI w)), (3, .int (iI ((a 23) (w - 1)))), (4, .int (iI r1)), (5, .int (iI r2))] [.int (iI r2)] _ _ _ _
            refine pm_e_sim pm_a209_167 rfl ?_
            refine pm_e_top (y := iI (-4)) (by decide +kernel) ?_
            show pm_E _ _ _ 169 [(0, .ref 18), (1, .int (iI i)), (2, .int (iI w)), (3, .int (iI ((a 23) (w - 1)))), (4, .int (iI r1)), (5, .int (iI r2))] [.int (iI (-4)), .int (iI r2)] _ _ _ _
            refine pm_c_eq (t := 188) pm_a209_169 rfl ⟨by omega, by omega⟩ ⟨by omega, by omega⟩ (fun h_5 => ?_) (fun h_5 => ?_)
            · skip
              show pm_E _ _ _ 188 [(0, .ref 18), (1, .int (iI i)), (2, .int (iI w)), (3, .int (iI ((a 23) (w - 1)))), (4, .int (iI r1)), (5, .int (iI r2))] [] _ _ _ _
              refine pm_e_sim pm_a209_188 rfl ?_
              refine pm_e_top (y := iI (-4)) (by decide +kernel) ?_
              show pm_E _ _ _ 190 [(0, .ref 18), (1, .int (iI i)), (2, .int (iI w)), (3, .int (iI ((a 23) (w - 1)))), (4, .int (iI r1)), (5, .int (iI r2))] [.int (iI (-4))] _ _ _ _
              refine pm_e_sim pm_a209_190 rfl ?_
              show pm_E _ _ _ 192 [(0, .ref 18), (1, .int (iI i)), (2, .int (iI w)), (3, .int (iI ((a 23) (w - 1)))), (4, .int (iI r1)), (5, .int (iI r2)), (6, .int (iI (-4)))] [] _ _ _ _
              refine pm_e_sim pm_a209_192 rfl ?_
              show pm_E _ _ _ 194 [(0, .ref 18), (1, .int (iI i)), (2, .int (iI w)), (3, .int (iI ((a 23) (w - 1)))), (4, .int (iI r1)), (5, .int (iI r2)), (6, .int (iI (-4)))] [.int (iI (-4))] _ _ _ _
              refine pm_e_sim pm_a209_194 rfl ?_
              refine pm_e_top (y := iI (-4)) (by decide +kernel) ?_
              show pm_E _ _ _ 196 [(0, .ref 18), (1, .int (iI i)), (2, .int (iI w)), (3, .int (iI ((a 23) (w - 1)))), (4, .int (iI r1)), (5, .int (iI r2)), (6, .int (iI (-4)))] [.int (iI (-4)), .int (iI (-4))] _ _ _ _
              refine pm_e_icf pm_a209_196 rfl (by decide +kernel) ?_
              show pm_E _ _ _ 199 [(0, .ref 18), (1, .int (iI i)), (2, .int (iI w)), (3, .int (iI ((a 23) (w - 1)))), (4, .int (iI r1)), (5, .int (iI r2)), (6, .int (iI (-4)))] [] _ _ _ _
              refine pm_e_sim pm_a209_199 rfl ?_
              show pm_E _ _ _ 200 [(0, .ref 18), (1, .int (iI i)), (2, .int (iI w)), (3, .int (iI ((a 23) (w - 1)))), (4, .int (iI r1)), (5, .int (iI r2)), (6, .int (iI (-4)))] [.ref 18] _ _ _ _
              refine pm_i_get pm_a209_200 rfl (mh_get (j := 0) hA rfl) rfl ?_
              show pm_E _ _ _ 203 [(0, .ref 18), (1, .int (iI i)), (2, .int (iI w)), (3, .int (iI ((a 23) (w - 1)))), (4, .int (iI r1)), (5, .int (iI r2)), (6, .int (iI (-4)))] [.ref 40] _ _ _ _
              refine pm_e_sim pm_a209_203 rfl ?_
              show pm_E _ _ _ 204 [(0, .ref 18), (1, .int (iI i)), (2, .int (iI w)), (3, .int (iI ((a 23) (w - 1)))), (4, .int (iI r1)), (5, .int (iI r2)), (6, .int (iI (-4)))] [.int (iI ((a 23) (w - 1))), .ref 40] _ _ _ _
              refine pm_e_sim pm_a209_204 rfl ?_
              refine pm_e_top (y := iI 2) (by decide +kernel) ?_
              show pm_E _ _ _ 205 [(0, .ref 18), (1, .int (iI i)), (2, .int (iI w)), (3, .int (iI ((a 23) (w - 1)))), (4, .int (iI r1)), (5, .int (iI r2)), (6, .int (iI (-4)))] [.int (iI 2), .int (iI ((a 23) (w - 1))), .ref 40] _ _ _ _
              refine pm_i_ast pm_a209_205 (mh_get (j := 22) hA rfl) (by omega) (by omega) ⟨by omega, by omega⟩ (ma_22 hA _) ?_
              show pm_E _ _ _ 206 [(0, .ref 18), (1, .int (iI i)), (2, .int (iI w)), (3, .int (iI ((a 23) (w - 1)))), (4, .int (iI r1)), (5, .int (iI r2)), (6, .int (iI (-4)))] [] _ _ _ _
              refine pm_e_inc (y := iI (w + (-1))) pm_a209_206 rfl (iI_add _ _) (by decide +kernel) rfl ?_
              show pm_E _ _ _ 209 [(0, .ref 18), (1, .int (iI i)), (2, .int (iI (w + (-1)))), (3, .int (iI ((a 23) (w - 1)))), (4, .int (iI r1)), (5, .int (iI r2)), (6, .int (iI (-4)))] [] _ _ _ _
              refine pm_e_goto pm_a209_209 rfl ?_
              show pm_E _ _ _ 244 [(0, .ref 18), (1, .int (iI i)), (2, .int (iI (w + (-1)))), (3, .int (iI ((a 23) (w - 1)))), (4, .int (iI r1)), (5, .int (iI r2)), (6, .int (iI (-4)))] [] _ _ _ _
              refine pm_e_goto pm_a209_244 rfl ?_
              show pm_E _ _ _ 73 [(0, .ref 18), (1, .int (iI i)), (2, .int (iI (w + (-1)))), (3, .int (iI ((a 23) (w - 1)))), (4, .int (iI r1)), (5, .int (iI r2)), (6, .int (iI (-4)))] [] _ _ _ _
              show pm_E _ _ _ 73 ([(0, .ref 18), (1, .int (iI i)), (2, .int (iI (w + (-1))))] ++ [(3, .int (iI ((a 23) (w - 1)))), (4, .int (iI r1)), (5, .int (iI r2)), (6, .int (iI (-4)))]) [] _ _ _ _
              refine pm_e_more [(3, .int (iI ((a 23) (w - 1)))), (4, .int (iI r1)), (5, .int (iI r2)), (6, .int (iI (-4)))] (show ([0, 1, 2, 3, 4, 5, 6] : List Nat).Nodup from by decide) ?_
              have h9 := cn0_dn (B := a 22) (g := (a 23) (w - 1)) (y := 2) (by omega) (n := (s 32).toNat)
              have hD2 := DF_fin (x := (a 23) (w - 1)) hD (by omega) rfl hrc (fun _ => ⟨by rw [← e1]; omega, by rw [← e2]; omega⟩)
              refine ih (w + -1) _ (by omega) (fun j h1 h2 => by simp [updA, h1, fA j h1 h2]) (fun j z y => ?_) (fun j z y => hpt j z (by omega)) ?_ hD2 (fun j z => ?_) k kf ?_
              · show 0 ≤ updI (a 22) _ 2 j ∧ updI (a 22) _ 2 j ≤ 2; have := hmk j z y; unfold updI; split <;> omega
              · show w + -1 + cn0 (updI (a 22) ((a 23) (w - 1)) 2) _ ≤ _; omega
              · show updI (a 22) _ 2 j ≠ 0; have := hzp j z; unfold updI; split <;> omega
              · show 2 * cn0 (updI (a 22) ((a 23) (w - 1)) 2) _ + (w + -1) < _; omega
            · skip
              show pm_E _ _ _ 172 [(0, .ref 18), (1, .int (iI i)), (2, .int (iI w)), (3, .int (iI ((a 23) (w - 1)))), (4, .int (iI r1)), (5, .int (iI r2))] [] _ _ _ _
              refine pm_e_sim pm_a209_172 rfl ?_
              show pm_E _ _ _ 173 [(0, .ref 18), (1, .int (iI i)), (2, .int (iI w)), (3, .int (iI ((a 23) (w - 1)))), (4, .int (iI r1)), (5, .int (iI r2))] [.ref 18] _ _ _ _
              refine pm_i_get pm_a209_173 rfl (mh_get (j := 0) hA rfl) rfl ?_
              show pm_E _ _ _ 176 [(0, .ref 18), (1, .int (iI i)), (2, .int (iI w)), (3, .int (iI ((a 23) (w - 1)))), (4, .int (iI r1)), (5, .int (iI r2))] [.ref 40] _ _ _ _
              refine pm_e_sim pm_a209_176 rfl ?_
              show pm_E _ _ _ 178 [(0, .ref 18), (1, .int (iI i)), (2, .int (iI w)), (3, .int (iI ((a 23) (w - 1)))), (4, .int (iI r1)), (5, .int (iI r2))] [.int (iI r2), .ref 40] _ _ _ _
              refine pm_i_ald pm_a209_178 (mh_get (j := 22) hA rfl) (by omega) (by omega) ⟨by omega, by omega⟩ ?_
              show pm_E _ _ _ 179 [(0, .ref 18), (1, .int (iI i)), (2, .int (iI w)), (3, .int (iI ((a 23) (w - 1)))), (4, .int (iI r1)), (5, .int (iI r2))] [.int (iI ((a 22) (r2)))] _ _ _ _
              refine pm_e_sim pm_a209_179 rfl ?_
              refine pm_e_top (y := iI 2) (by decide +kernel) ?_
              show pm_E _ _ _ 180 [(0, .ref 18), (1, .int (iI i)), (2, .int (iI w)), (3, .int (iI ((a 23) (w - 1)))), (4, .int (iI r1)), (5, .int (iI r2))] [.int (iI 2), .int (iI ((a 22) (r2)))] _ _ _ _
              refine pm_c_ge (t := 188) pm_a209_180 rfl ⟨by omega, by omega⟩ ⟨by omega, by omega⟩ (fun h_6 => ?_) (fun h_6 => ?_)
              · skip
                show pm_E _ _ _ 188 [(0, .ref 18), (1, .int (iI i)), (2, .int (iI w)), (3, .int (iI ((a 23) (w - 1)))), (4, .int (iI r1)), (5, .int (iI r2))] [] _ _ _ _
                refine pm_e_sim pm_a209_188 rfl ?_
                refine pm_e_top (y := iI (-4)) (by decide +kernel) ?_
                show pm_E _ _ _ 190 [(0, .ref 18), (1, .int (iI i)), (2, .int (iI w)), (3, .int (iI ((a 23) (w - 1)))), (4, .int (iI r1)), (5, .int (iI r2))] [.int (iI (-4))] _ _ _ _
                refine pm_e_sim pm_a209_190 rfl ?_
                show pm_E _ _ _ 192 [(0, .ref 18), (1, .int (iI i)), (2, .int (iI w)), (3, .int (iI ((a 23) (w - 1)))), (4, .int (iI r1)), (5, .int (iI r2)), (6, .int (iI (-4)))] [] _ _ _ _
                refine pm_e_sim pm_a209_192 rfl ?_
                show pm_E _ _ _ 194 [(0, .ref 18), (1, .int (iI i)), (2, .int (iI w)), (3, .int (iI ((a 23) (w - 1)))), (4, .int (iI r1)), (5, .int (iI r2)), (6, .int (iI (-4)))] [.int (iI (-4))] _ _ _ _
                refine pm_e_sim pm_a209_194 rfl ?_
                refine pm_e_top (y := iI (-4)) (by decide +kernel) ?_
                show pm_E _ _ _ 196 [(0, .ref 18), (1, .int (iI i)), (2, .int (iI w)), (3, .int (iI ((a 23) (w - 1)))), (4, .int (iI r1)), (5, .int (iI r2)), (6, .int (iI (-4)))] [.int (iI (-4)), .int (iI (-4))] _ _ _ _
                refine pm_e_icf pm_a209_196 rfl (by decide +kernel) ?_
                show pm_E _ _ _ 199 [(0, .ref 18), (1, .int (iI i)), (2, .int (iI w)), (3, .int (iI ((a 23) (w - 1)))), (4, .int (iI r1)), (5, .int (iI r2)), (6, .int (iI (-4)))] [] _ _ _ _
                refine pm_e_sim pm_a209_199 rfl ?_
                show pm_E _ _ _ 200 [(0, .ref 18), (1, .int (iI i)), (2, .int (iI w)), (3, .int (iI ((a 23) (w - 1)))), (4, .int (iI r1)), (5, .int (iI r2)), (6, .int (iI (-4)))] [.ref 18] _ _ _ _
                refine pm_i_get pm_a209_200 rfl (mh_get (j := 0) hA rfl) rfl ?_
                show pm_E _ _ _ 203 [(0, .ref 18), (1, .int (iI i)), (2, .int (iI w)), (3, .int (iI ((a 23) (w - 1)))), (4, .int (iI r1)), (5, .int (iI r2)), (6, .int (iI (-4)))] [.ref 40] _ _ _ _
                refine pm_e_sim pm_a209_203 rfl ?_
                show pm_E _ _ _ 204 [(0, .ref 18), (1, .int (iI i)), (2, .int (iI w)), (3, .int (iI ((a 23) (w - 1)))), (4, .int (iI r1)), (5, .int (iI r2)), (6, .int (iI (-4)))] [.int (iI ((a 23) (w - 1))), .ref 40] _ _ _ _
                refine pm_e_sim pm_a209_204 rfl ?_
                refine pm_e_top (y := iI 2) (by decide +kernel) ?_
                show pm_E _ _ _ 205 [(0, .ref 18), (1, .int (iI i)), (2, .int (iI w)), (3, .int (iI ((a 23) (w - 1)))), (4, .int (iI r1)), (5, .int (iI r2)), (6, .int (iI (-4)))] [.int (iI 2), .int (iI ((a 23) (w - 1))), .ref 40] _ _ _ _
                refine pm_i_ast pm_a209_205 (mh_get (j := 22) hA rfl) (by omega) (by omega) ⟨by omega, by omega⟩ (ma_22 hA _) ?_
                show pm_E _ _ _ 206 [(0, .ref 18), (1, .int (iI i)), (2, .int (iI w)), (3, .int (iI ((a 23) (w - 1)))), (4, .int (iI r1)), (5, .int (iI r2)), (6, .int (iI (-4)))] [] _ _ _ _
                refine pm_e_inc (y := iI (w + (-1))) pm_a209_206 rfl (iI_add _ _) (by decide +kernel) rfl ?_
                show pm_E _ _ _ 209 [(0, .ref 18), (1, .int (iI i)), (2, .int (iI (w + (-1)))), (3, .int (iI ((a 23) (w - 1)))), (4, .int (iI r1)), (5, .int (iI r2)), (6, .int (iI (-4)))] [] _ _ _ _
                refine pm_e_goto pm_a209_209 rfl ?_
                show pm_E _ _ _ 244 [(0, .ref 18), (1, .int (iI i)), (2, .int (iI (w + (-1)))), (3, .int (iI ((a 23) (w - 1)))), (4, .int (iI r1)), (5, .int (iI r2)), (6, .int (iI (-4)))] [] _ _ _ _
                refine pm_e_goto pm_a209_244 rfl ?_
                show pm_E _ _ _ 73 [(0, .ref 18), (1, .int (iI i)), (2, .int (iI (w + (-1)))), (3, .int (iI ((a 23) (w - 1)))), (4, .int (iI r1)), (5, .int (iI r2)), (6, .int (iI (-4)))] [] _ _ _ _
                show pm_E _ _ _ 73 ([(0, .ref 18), (1, .int (iI i)), (2, .int (iI (w + (-1))))] ++ [(3, .int (iI ((a 23) (w - 1)))), (4, .int (iI r1)), (5, .int (iI r2)), (6, .int (iI (-4)))]) [] _ _ _ _
                refine pm_e_more [(3, .int (iI ((a 23) (w - 1)))), (4, .int (iI r1)), (5, .int (iI r2)), (6, .int (iI (-4)))] (show ([0, 1, 2, 3, 4, 5, 6] : List Nat).Nodup from by decide) ?_
                have h9 := cn0_dn (B := a 22) (g := (a 23) (w - 1)) (y := 2) (by omega) (n := (s 32).toNat)
                have hD2 := DF_fin (x := (a 23) (w - 1)) hD (by omega) rfl hrc (fun _ => ⟨by rw [← e1]; omega, by rw [← e2]; omega⟩)
                refine ih (w + -1) _ (by omega) (fun j h1 h2 => by simp [updA, h1, fA j h1 h2]) (fun j z y => ?_) (fun j z y => hpt j z (by omega)) ?_ hD2 (fun j z => ?_) k kf ?_
                · show 0 ≤ updI (a 22) _ 2 j ∧ updI (a 22) _ 2 j ≤ 2; have := hmk j z y; unfold updI; split <;> omega
                · show w + -1 + cn0 (updI (a 22) ((a 23) (w - 1)) 2) _ ≤ _; omega
                · show updI (a 22) _ 2 j ≠ 0; have := hzp j z; unfold updI; split <;> omega
                · show 2 * cn0 (updI (a 22) ((a 23) (w - 1)) 2) _ + (w + -1) < _; omega
              · skip
                show pm_E _ _ _ 183 [(0, .ref 18), (1, .int (iI i)), (2, .int (iI w)), (3, .int (iI ((a 23) (w - 1)))), (4, .int (iI r1)), (5, .int (iI r2))] [] _ _ _ _
                refine pm_e_sim pm_a209_183 rfl ?_
                show pm_E _ _ _ 185 [(0, .ref 18), (1, .int (iI i)), (2, .int (iI w)), (3, .int (iI ((a 23) (w - 1)))), (4, .int (iI r1)), (5, .int (iI r2))] [.int (iI r2)] _ _ _ _
                refine pm_e_goto pm_a209_185 rfl ?_
                show pm_E _ _ _ 190 [(0, .ref 18), (1, .int (iI i)), (2, .int (iI w)), (3, .int (iI ((a 23) (w - 1)))), (4, .int (iI r1)), (5, .int (iI r2))] [.int (iI r2)] _ _ _ _
                refine pm_e_sim pm_a209_190 rfl ?_
                show pm_E _ _ _ 192 [(0, .ref 18), (1, .int (iI i)), (2, .int (iI w)), (3, .int (iI ((a 23) (w - 1)))), (4, .int (iI r1)), (5, .int (iI r2)), (6, .int (iI r2))] [] _ _ _ _
                refine pm_e_sim pm_a209_192 rfl ?_
                show pm_E _ _ _ 194 [(0, .ref 18), (1, .int (iI i)), (2, .int (iI w)), (3, .int (iI ((a 23) (w - 1)))), (4, .int (iI r1)), (5, .int (iI r2)), (6, .int (iI r2))] [.int (iI r2)] _ _ _ _
                refine pm_e_sim pm_a209_194 rfl ?_
                refine pm_e_top (y := iI (-4)) (by decide +kernel) ?_
                show pm_E _ _ _ 196 [(0, .ref 18), (1, .int (iI i)), (2, .int (iI w)), (3, .int (iI ((a 23) (w - 1)))), (4, .int (iI r1)), (5, .int (iI r2)), (6, .int (iI r2))] [.int (iI (-4)), .int (iI r2)] _ _ _ _
                refine pm_c_ne (t := 212) pm_a209_196 rfl ⟨by omega, by omega⟩ ⟨by omega, by omega⟩ (fun h_7 => ?_) (fun h_7 => ?_)
                · skip
                  show pm_E _ _ _ 212 [(0, .ref 18), (1, .int (iI i)), (2, .int (iI w)), (3, .int (iI ((a 23) (w - 1)))), (4, .int (iI r1)), (5, .int (iI r2)), (6, .int (iI r2))] [] _ _ _ _
                  refine pm_e_sim pm_a209_212 rfl ?_
                  show pm_E _ _ _ 213 [(0, .ref 18), (1, .int (iI i)), (2, .int (iI w)), (3, .int (iI ((a 23) (w - 1)))), (4, .int (iI r1)), (5, .int (iI r2)), (6, .int (iI r2))] [.ref 18] _ _ _ _
                  refine pm_i_get pm_a209_213 rfl (mh_get (j := 0) hA rfl) rfl ?_
                  show pm_E _ _ _ 216 [(0, .ref 18), (1, .int (iI i)), (2, .int (iI w)), (3, .int (iI ((a 23) (w - 1)))), (4, .int (iI r1)), (5, .int (iI r2)), (6, .int (iI r2))] [.ref 40] _ _ _ _
                  refine pm_e_sim pm_a209_216 rfl ?_
                  show pm_E _ _ _ 218 [(0, .ref 18), (1, .int (iI i)), (2, .int (iI w)), (3, .int (iI ((a 23) (w - 1)))), (4, .int (iI r1)), (5, .int (iI r2)), (6, .int (iI r2))] [.int (iI r2), .ref 40] _ _ _ _
                  refine pm_i_ald pm_a209_218 (mh_get (j := 22) hA rfl) (by omega) (by omega) ⟨by omega, by omega⟩ ?_
                  show pm_E _ _ _ 219 [(0, .ref 18), (1, .int (iI i)), (2, .int (iI w)), (3, .int (iI ((a 23) (w - 1)))), (4, .int (iI r1)), (5, .int (iI r2)), (6, .int (iI r2))] [.int (iI ((a 22) (r2)))] _ _ _ _
                  refine pm_e_sim pm_a209_219 rfl ?_
                  refine pm_e_top (y := iI 1) (by decide +kernel) ?_
                  show pm_E _ _ _ 220 [(0, .ref 18), (1, .int (iI i)), (2, .int (iI w)), (3, .int (iI ((a 23) (w - 1)))), (4, .int (iI r1)), (5, .int (iI r2)), (6, .int (iI r2))] [.int (iI 1), .int (iI ((a 22) (r2)))] _ _ _ _
                  refine pm_c_ne (t := 225) pm_a209_220 rfl ⟨by omega, by omega⟩ ⟨by omega, by omega⟩ (fun h_8 => ?_) (fun h_8 => ?_)
                  · skip
                    show pm_E _ _ _ 225 [(0, .ref 18), (1, .int (iI i)), (2, .int (iI w)), (3, .int (iI ((a 23) (w - 1)))), (4, .int (iI r1)), (5, .int (iI r2)), (6, .int (iI r2))] [] _ _ _ _
                    refine pm_e_sim pm_a209_225 rfl ?_
                    show pm_E _ _ _ 226 [(0, .ref 18), (1, .int (iI i)), (2, .int (iI w)), (3, .int (iI ((a 23) (w - 1)))), (4, .int (iI r1)), (5, .int (iI r2)), (6, .int (iI r2))] [.ref 18] _ _ _ _
                    refine pm_i_get pm_a209_226 rfl (mh_get (j := 0) hA rfl) rfl ?_
                    show pm_E _ _ _ 229 [(0, .ref 18), (1, .int (iI i)), (2, .int (iI w)), (3, .int (iI ((a 23) (w - 1)))), (4, .int (iI r1)), (5, .int (iI r2)), (6, .int (iI r2))] [.ref 40] _ _ _ _
                    refine pm_e_sim pm_a209_229 rfl ?_
                    show pm_E _ _ _ 231 [(0, .ref 18), (1, .int (iI i)), (2, .int (iI w)), (3, .int (iI ((a 23) (w - 1)))), (4, .int (iI r1)), (5, .int (iI r2)), (6, .int (iI r2))] [.int (iI r2), .ref 40] _ _ _ _
                    refine pm_e_sim pm_a209_231 rfl ?_
                    refine pm_e_top (y := iI 1) (by decide +kernel) ?_
                    show pm_E _ _ _ 232 [(0, .ref 18), (1, .int (iI i)), (2, .int (iI w)), (3, .int (iI ((a 23) (w - 1)))), (4, .int (iI r1)), (5, .int (iI r2)), (6, .int (iI r2))] [.int (iI 1), .int (iI r2), .ref 40] _ _ _ _
                    refine pm_i_ast pm_a209_232 (mh_get (j := 22) hA rfl) (by omega) (by omega) ⟨by omega, by omega⟩ (ma_22 hA _) ?_
                    show pm_E _ _ _ 233 [(0, .ref 18), (1, .int (iI i)), (2, .int (iI w)), (3, .int (iI ((a 23) (w - 1)))), (4, .int (iI r1)), (5, .int (iI r2)), (6, .int (iI r2))] [] _ _ _ _
                    refine pm_e_sim pm_a209_233 rfl ?_
                    show pm_E _ _ _ 234 [(0, .ref 18), (1, .int (iI i)), (2, .int (iI w)), (3, .int (iI ((a 23) (w - 1)))), (4, .int (iI r1)), (5, .int (iI r2)), (6, .int (iI r2))] [.ref 18] _ _ _ _
                    refine pm_i_get pm_a209_234 rfl (mh_get (j := 0) hA rfl) rfl ?_
                    show pm_E _ _ _ 237 [(0, .ref 18), (1, .int (iI i)), (2, .int (iI w)), (3, .int (iI ((a 23) (w - 1)))), (4, .int (iI r1)), (5, .int (iI r2)), (6, .int (iI r2))] [.ref 41] _ _ _ _
                    refine pm_e_sim pm_a209_237 rfl ?_
                    show pm_E _ _ _ 238 [(0, .ref 18), (1, .int (iI i)), (2, .int (iI w)), (3, .int (iI ((a 23) (w - 1)))), (4, .int (iI r1)), (5, .int (iI r2)), (6, .int (iI r2))] [.int (iI w), .ref 41] _ _ _ _
                    refine pm_e_sim pm_a209_238 rfl ?_
                    show pm_E _ _ _ 240 [(0, .ref 18), (1, .int (iI i)), (2, .int (iI w)), (3, .int (iI ((a 23) (w - 1)))), (4, .int (iI r1)), (5, .int (iI r2)), (6, .int (iI r2))] [.int (iI r2), .int (iI w), .ref 41] _ _ _ _
                    refine pm_i_ast pm_a209_240 (mh_get (j := 23) hA rfl) (by omega) (by omega) ⟨by omega, by omega⟩ (ma_23 hA _) ?_
                    show pm_E _ _ _ 241 [(0, .ref 18), (1, .int (iI i)), (2, .int (iI w)), (3, .int (iI ((a 23) (w - 1)))), (4, .int (iI r1)), (5, .int (iI r2)), (6, .int (iI r2))] [] _ _ _ _
                    refine pm_e_inc (y := iI (w + 1)) pm_a209_241 rfl (iI_add _ _) (by decide +kernel) rfl ?_
                    show pm_E _ _ _ 244 [(0, .ref 18), (1, .int (iI i)), (2, .int (iI (w + 1))), (3, .int (iI ((a 23) (w - 1)))), (4, .int (iI r1)), (5, .int (iI r2)), (6, .int (iI r2))] [] _ _ _ _
                    refine pm_e_goto pm_a209_244 rfl ?_
                    show pm_E _ _ _ 73 [(0, .ref 18), (1, .int (iI i)), (2, .int (iI (w + 1))), (3, .int (iI ((a 23) (w - 1)))), (4, .int (iI r1)), (5, .int (iI r2)), (6, .int (iI r2))] [] _ _ _ _
                    show pm_E _ _ _ 73 ([(0, .ref 18), (1, .int (iI i)), (2, .int (iI (w + 1)))] ++ [(3, .int (iI ((a 23) (w - 1)))), (4, .int (iI r1)), (5, .int (iI r2)), (6, .int (iI r2))]) [] _ _ _ _
                    refine pm_e_more [(3, .int (iI ((a 23) (w - 1)))), (4, .int (iI r1)), (5, .int (iI r2)), (6, .int (iI r2))] (show ([0, 1, 2, 3, 4, 5, 6] : List Nat).Nodup from by decide) ?_
                    have h9 := cn0_up (B := a 22) (g := r2) (y := 1) (by omega) (by omega) (n := (s 32).toNat) (by omega) (by omega)
                    have h8 := cn0_le (B := updI (a 22) r2 1) (n := (s 32).toNat)
                    have hD2 := DF_push (g := r2) hD h0 ⟨by omega, by omega⟩ (by omega) (fun _ => ⟨by omega, by first | exact Or.inl e2.symm | exact Or.inr e2.symm⟩)
                    refine ih (w + 1) _ (by omega) (fun j h1 h2 => by simp [updA, h1, h2, fA j h1 h2]) (fun j z y => ?_) (fun j z y => ?_) ?_ hD2 (fun j z => ?_) k kf ?_
                    · show 0 ≤ updI (a 22) _ 1 j ∧ updI (a 22) _ 1 j ≤ 2; have := hmk j z y; unfold updI; split <;> omega
                    · show 0 ≤ updI (a 23) w _ j ∧ updI (a 23) w _ j < _
                      by_cases hj : j = w
                      · rw [hj, updI_s]; omega
                      · rw [updI_n _ _ hj]; exact hpt j z (by omega)
                    · show w + 1 + cn0 (updI (a 22) r2 1) _ ≤ _; omega
                    · show updI (a 22) _ 1 j ≠ 0; have := hzp j z; unfold updI; split <;> omega
                    · show 2 * cn0 (updI (a 22) r2 1) _ + (w + 1) < _; omega
                  · skip
                    show pm_E _ _ _ 223 [(0, .ref 18), (1, .int (iI i)), (2, .int (iI w)), (3, .int (iI ((a 23) (w - 1)))), (4, .int (iI r1)), (5, .int (iI r2)), (6, .int (iI r2))] [] _ _ _ _
                    refine pm_e_sim pm_a209_223 rfl ?_
                    refine pm_e_top (y := iI 0) (by decide +kernel) ?_
                    show pm_E _ _ _ 224 [(0, .ref 18), (1, .int (iI i)), (2, .int (iI w)), (3, .int (iI ((a 23) (w - 1)))), (4, .int (iI r1)), (5, .int (iI r2)), (6, .int (iI r2))] [.int (iI 0)] _ _ _ _
                    refine pm_e_ret pm_a209_224 rfl rfl rfl rfl rfl rfl rfl rfl ?_
                    have hcc : ∀ t, ¬ SOL (s 32) (-4) (a 18) (a 19) rt t := by
                      first
                      | exact DF_circ (g := r1) hD (by omega) ⟨by omega, by omega⟩ (by omega) ⟨by omega, Or.inl e1.symm⟩ hra.2
                      | exact DF_circ (g := r2) hD (by omega) ⟨by omega, by omega⟩ (by omega) ⟨by omega, Or.inr e2.symm⟩ hra.2
                    exact kf a fA (by rw [← e18, ← e19]; exact hcc)
                · skip
                  show pm_E _ _ _ 199 [(0, .ref 18), (1, .int (iI i)), (2, .int (iI w)), (3, .int (iI ((a 23) (w - 1)))), (4, .int (iI r1)), (5, .int (iI r2)), (6, .int (iI r2))] [] _ _ _ _
                  refine pm_e_sim pm_a209_199 rfl ?_
                  show pm_E _ _ _ 200 [(0, .ref 18), (1, .int (iI i)), (2, .int (iI w)), (3, .int (iI ((a 23) (w - 1)))), (4, .int (iI r1)), (5, .int (iI r2)), (6, .int (iI r2))] [.ref 18] _ _ _ _
                  refine pm_i_get pm_a209_200 rfl (mh_get (j := 0) hA rfl) rfl ?_
                  show pm_E _ _ _ 203 [(0, .ref 18), (1, .int (iI i)), (2, .int (iI w)), (3, .int (iI ((a 23) (w - 1)))), (4, .int (iI r1)), (5, .int (iI r2)), (6, .int (iI r2))] [.ref 40] _ _ _ _
                  refine pm_e_sim pm_a209_203 rfl ?_
                  show pm_E _ _ _ 204 [(0, .ref 18), (1, .int (iI i)), (2, .int (iI w)), (3, .int (iI ((a 23) (w - 1)))), (4, .int (iI r1)), (5, .int (iI r2)), (6, .int (iI r2))] [.int (iI ((a 23) (w - 1))), .ref 40] _ _ _ _
                  refine pm_e_sim pm_a209_204 rfl ?_
                  refine pm_e_top (y := iI 2) (by decide +kernel) ?_
                  show pm_E _ _ _ 205 [(0, .ref 18), (1, .int (iI i)), (2, .int (iI w)), (3, .int (iI ((a 23) (w - 1)))), (4, .int (iI r1)), (5, .int (iI r2)), (6, .int (iI r2))] [.int (iI 2), .int (iI ((a 23) (w - 1))), .ref 40] _ _ _ _
                  refine pm_i_ast pm_a209_205 (mh_get (j := 22) hA rfl) (by omega) (by omega) ⟨by omega, by omega⟩ (ma_22 hA _) ?_
                  show pm_E _ _ _ 206 [(0, .ref 18), (1, .int (iI i)), (2, .int (iI w)), (3, .int (iI ((a 23) (w - 1)))), (4, .int (iI r1)), (5, .int (iI r2)), (6, .int (iI r2))] [] _ _ _ _
                  refine pm_e_inc (y := iI (w + (-1))) pm_a209_206 rfl (iI_add _ _) (by decide +kernel) rfl ?_
                  show pm_E _ _ _ 209 [(0, .ref 18), (1, .int (iI i)), (2, .int (iI (w + (-1)))), (3, .int (iI ((a 23) (w - 1)))), (4, .int (iI r1)), (5, .int (iI r2)), (6, .int (iI r2))] [] _ _ _ _
                  refine pm_e_goto pm_a209_209 rfl ?_
                  show pm_E _ _ _ 244 [(0, .ref 18), (1, .int (iI i)), (2, .int (iI (w + (-1)))), (3, .int (iI ((a 23) (w - 1)))), (4, .int (iI r1)), (5, .int (iI r2)), (6, .int (iI r2))] [] _ _ _ _
                  refine pm_e_goto pm_a209_244 rfl ?_
                  show pm_E _ _ _ 73 [(0, .ref 18), (1, .int (iI i)), (2, .int (iI (w + (-1)))), (3, .int (iI ((a 23) (w - 1)))), (4, .int (iI r1)), (5, .int (iI r2)), (6, .int (iI r2))] [] _ _ _ _
                  show pm_E _ _ _ 73 ([(0, .ref 18), (1, .int (iI i)), (2, .int (iI (w + (-1))))] ++ [(3, .int (iI ((a 23) (w - 1)))), (4, .int (iI r1)), (5, .int (iI r2)), (6, .int (iI r2))]) [] _ _ _ _
                  refine pm_e_more [(3, .int (iI ((a 23) (w - 1)))), (4, .int (iI r1)), (5, .int (iI r2)), (6, .int (iI r2))] (show ([0, 1, 2, 3, 4, 5, 6] : List Nat).Nodup from by decide) ?_
                  have h9 := cn0_dn (B := a 22) (g := (a 23) (w - 1)) (y := 2) (by omega) (n := (s 32).toNat)
                  have hD2 := DF_fin (x := (a 23) (w - 1)) hD (by omega) rfl hrc (fun _ => ⟨by rw [← e1]; omega, by rw [← e2]; omega⟩)
                  refine ih (w + -1) _ (by omega) (fun j h1 h2 => by simp [updA, h1, fA j h1 h2]) (fun j z y => ?_) (fun j z y => hpt j z (by omega)) ?_ hD2 (fun j z => ?_) k kf ?_
                  · show 0 ≤ updI (a 22) _ 2 j ∧ updI (a 22) _ 2 j ≤ 2; have := hmk j z y; unfold updI; split <;> omega
                  · show w + -1 + cn0 (updI (a 22) ((a 23) (w - 1)) 2) _ ≤ _; omega
                  · show updI (a 22) _ 2 j ≠ 0; have := hzp j z; unfold updI; split <;> omega
                  · show 2 * cn0 (updI (a 22) ((a 23) (w - 1)) 2) _ + (w + -1) < _; omega
          · skip
            show pm_E _ _ _ 149 [(0, .ref 18), (1, .int (iI i)), (2, .int (iI w)), (3, .int (iI ((a 23) (w - 1)))), (4, .int (iI r1)), (5, .int (iI r2))] [] _ _ _ _
            refine pm_e_sim pm_a209_149 rfl ?_
            show pm_E _ _ _ 150 [(0, .ref 18), (1, .int (iI i)), (2, .int (iI w)), (3, .int (iI ((a 23) (w - 1)))), (4, .int (iI r1)), (5, .int (iI r2))] [.ref 18] _ _ _ _
            refine pm_i_get pm_a209_150 rfl (mh_get (j := 0) hA rfl) rfl ?_
            show pm_E _ _ _ 153 [(0, .ref 18), (1, .int (iI i)), (2, .int (iI w)), (3, .int (iI ((a 23) (w - 1)))), (4, .int (iI r1)), (5, .int (iI r2))] [.ref 40] _ _ _ _
            refine pm_e_sim pm_a209_153 rfl ?_
            show pm_E _ _ _ 155 [(0, .ref 18), (1, .int (iI i)), (2, .int (iI w)), (3, .int (iI ((a 23) (w - 1)))), (4, .int (iI r1)), (5, .int (iI r2))] [.int (iI r1), .ref 40] _ _ _ _
            refine pm_i_ald pm_a209_155 (mh_get (j := 22) hA rfl) (by omega) (by omega) ⟨by omega, by omega⟩ ?_
            show pm_E _ _ _ 156 [(0, .ref 18), (1, .int (iI i)), (2, .int (iI w)), (3, .int (iI ((a 23) (w - 1)))), (4, .int (iI r1)), (5, .int (iI r2))] [.int (iI ((a 22) (r1)))] _ _ _ _
            refine pm_e_sim pm_a209_156 rfl ?_
            refine pm_e_top (y := iI 2) (by decide +kernel) ?_
            show pm_E _ _ _ 157 [(0, .ref 18), (1, .int (iI i)), (2, .int (iI w)), (3, .int (iI ((a 23) (w - 1)))), (4, .int (iI r1)), (5, .int (iI r2))] [.int (iI 2), .int (iI ((a 22) (r1)))] _ _ _ _
            refine pm_c_ge (t := 165) pm_a209_157 rfl ⟨by omega, by omega⟩ ⟨by omega, by omega⟩ (fun h_9 => ?_) (fun h_9 => ?_)
            · skip
              show pm_E _ _ _ 165 [(0, .ref 18), (1, .int (iI i)), (2, .int (iI w)), (3, .int (iI ((a 23) (w - 1)))), (4, .int (iI r1)), (5, .int (iI r2))] [] _ _ _ _
              refine pm_e_sim pm_a209_165 rfl ?_
              show pm_E _ _ _ 167 [(0, .ref 18), (1, .int (iI i)), (2, .int (iI w)), (3, .int (iI ((a 23) (w - 1)))), (4, .int (iI r1)), (5, .int (iI r2))] [.int (iI r2)] _ _ _ _
              refine pm_e_sim pm_a209_167 rfl ?_
              refine pm_e_top (y := iI (-4)) (by decide +kernel) ?_
              show pm_E _ _ _ 169 [(0, .ref 18), (1, .int (iI i)), (2, .int (iI w)), (3, .int (iI ((a 23) (w - 1)))), (4, .int (iI r1)), (5, .int (iI r2))] [.int (iI (-4)), .int (iI r2)] _ _ _ _
              refine pm_c_eq (t := 188) pm_a209_169 rfl ⟨by omega, by omega⟩ ⟨by omega, by omega⟩ (fun h_10 => ?_) (fun h_10 => ?_)
              · skip
                show pm_E _ _ _ 188 [(0, .ref 18), (1, .int (iI i)), (2, .int (iI w)), (3, .int (iI ((a 23) (w - 1)))), (4, .int (iI r1)), (5, .int (iI r2))] [] _ _ _ _
                refine pm_e_sim pm_a209_188 rfl ?_
                refine pm_e_top (y := iI (-4)) (by decide +kernel) ?_
                show pm_E _ _ _ 190 [(0, .ref 18), (1, .int (iI i)), (2, .int (iI w)), (3, .int (iI ((a 23) (w - 1)))), (4, .int (iI r1)), (5, .int (iI r2))] [.int (iI (-4))] _ _ _ _
                refine pm_e_sim pm_a209_190 rfl ?_
                show pm_E _ _ _ 192 [(0, .ref 18), (1, .int (iI i)), (2, .int (iI w)), (3, .int (iI ((a 23) (w - 1)))), (4, .int (iI r1)), (5, .int (iI r2)), (6, .int (iI (-4)))] [] _ _ _ _
                refine pm_e_sim pm_a209_192 rfl ?_
                show pm_E _ _ _ 194 [(0, .ref 18), (1, .int (iI i)), (2, .int (iI w)), (3, .int (iI ((a 23) (w - 1)))), (4, .int (iI r1)), (5, .int (iI r2)), (6, .int (iI (-4)))] [.int (iI (-4))] _ _ _ _
                refine pm_e_sim pm_a209_194 rfl ?_
                refine pm_e_top (y := iI (-4)) (by decide +kernel) ?_
                show pm_E _ _ _ 196 [(0, .ref 18), (1, .int (iI i)), (2, .int (iI w)), (3, .int (iI ((a 23) (w - 1)))), (4, .int (iI r1)), (5, .int (iI r2)), (6, .int (iI (-4)))] [.int (iI (-4)), .int (iI (-4))] _ _ _ _
                refine pm_e_icf pm_a209_196 rfl (by decide +kernel) ?_
                show pm_E _ _ _ 199 [(0, .ref 18), (1, .int (iI i)), (2, .int (iI w)), (3, .int (iI ((a 23) (w - 1)))), (4, .int (iI r1)), (5, .int (iI r2)), (6, .int (iI (-4)))] [] _ _ _ _
                refine pm_e_sim pm_a209_199 rfl ?_
                show pm_E _ _ _ 200 [(0, .ref 18), (1, .int (iI i)), (2, .int (iI w)), (3, .int (iI ((a 23) (w - 1)))), (4, .int (iI r1)), (5, .int (iI r2)), (6, .int (iI (-4)))] [.ref 18] _ _ _ _
                refine pm_i_get pm_a209_200 rfl (mh_get (j := 0) hA rfl) rfl ?_
                show pm_E _ _ _ 203 [(0, .ref 18), (1, .int (iI i)), (2, .int (iI w)), (3, .int (iI ((a 23) (w - 1)))), (4, .int (iI r1)), (5, .int (iI r2)), (6, .int (iI (-4)))] [.ref 40] _ _ _ _
                refine pm_e_sim pm_a209_203 rfl ?_
                show pm_E _ _ _ 204 [(0, .ref 18), (1, .int (iI i)), (2, .int (iI w)), (3, .int (iI ((a 23) (w - 1)))), (4, .int (iI r1)), (5, .int (iI r2)), (6, .int (iI (-4)))] [.int (iI ((a 23) (w - 1))), .ref 40] _ _ _ _
                refine pm_e_sim pm_a209_204 rfl ?_
                refine pm_e_top (y := iI 2) (by decide +kernel) ?_
                show pm_E _ _ _ 205 [(0, .ref 18), (1, .int (iI i)), (2, .int (iI w)), (3, .int (iI ((a 23) (w - 1)))), (4, .int (iI r1)), (5, .int (iI r2)), (6, .int (iI (-4)))] [.int (iI 2), .int (iI ((a 23) (w - 1))), .ref 40] _ _ _ _
                refine pm_i_ast pm_a209_205 (mh_get (j := 22) hA rfl) (by omega) (by omega) ⟨by omega, by omega⟩ (ma_22 hA _) ?_
                show pm_E _ _ _ 206 [(0, .ref 18), (1, .int (iI i)), (2, .int (iI w)), (3, .int (iI ((a 23) (w - 1)))), (4, .int (iI r1)), (5, .int (iI r2)), (6, .int (iI (-4)))] [] _ _ _ _
                refine pm_e_inc (y := iI (w + (-1))) pm_a209_206 rfl (iI_add _ _) (by decide +kernel) rfl ?_
                show pm_E _ _ _ 209 [(0, .ref 18), (1, .int (iI i)), (2, .int (iI (w + (-1)))), (3, .int (iI ((a 23) (w - 1)))), (4, .int (iI r1)), (5, .int (iI r2)), (6, .int (iI (-4)))] [] _ _ _ _
                refine pm_e_goto pm_a209_209 rfl ?_
                show pm_E _ _ _ 244 [(0, .ref 18), (1, .int (iI i)), (2, .int (iI (w + (-1)))), (3, .int (iI ((a 23) (w - 1)))), (4, .int (iI r1)), (5, .int (iI r2)), (6, .int (iI (-4)))] [] _ _ _ _
                refine pm_e_goto pm_a209_244 rfl ?_
                show pm_E _ _ _ 73 [(0, .ref 18), (1, .int (iI i)), (2, .int (iI (w + (-1)))), (3, .int (iI ((a 23) (w - 1)))), (4, .int (iI r1)), (5, .int (iI r2)), (6, .int (iI (-4)))] [] _ _ _ _
                show pm_E _ _ _ 73 ([(0, .ref 18), (1, .int (iI i)), (2, .int (iI (w + (-1))))] ++ [(3, .int (iI ((a 23) (w - 1)))), (4, .int (iI r1)), (5, .int (iI r2)), (6, .int (iI (-4)))]) [] _ _ _ _
                refine pm_e_more [(3, .int (iI ((a 23) (w - 1)))), (4, .int (iI r1)), (5, .int (iI r2)), (6, .int (iI (-4)))] (show ([0, 1, 2, 3, 4, 5, 6] : List Nat).Nodup from by decide) ?_
                have h9 := cn0_dn (B := a 22) (g := (a 23) (w - 1)) (y := 2) (by omega) (n := (s 32).toNat)
                have hD2 := DF_fin (x := (a 23) (w - 1)) hD (by omega) rfl hrc (fun _ => ⟨by rw [← e1]; omega, by rw [← e2]; omega⟩)
                refine ih (w + -1) _ (by omega) (fun j h1 h2 => by simp [updA, h1, fA j h1 h2]) (fun j z y => ?_) (fun j z y => hpt j z (by omega)) ?_ hD2 (fun j z => ?_) k kf ?_
                · show 0 ≤ updI (a 22) _ 2 j ∧ updI (a 22) _ 2 j ≤ 2; have := hmk j z y; unfold updI; split <;> omega
                · show w + -1 + cn0 (updI (a 22) ((a 23) (w - 1)) 2) _ ≤ _; omega
                · show updI (a 22) _ 2 j ≠ 0; have := hzp j z; unfold updI; split <;> omega
                · show 2 * cn0 (updI (a 22) ((a 23) (w - 1)) 2) _ + (w + -1) < _; omega
              · skip
                show pm_E _ _ _ 172 [(0, .ref 18), (1, .int (iI i)), (2, .int (iI w)), (3, .int (iI ((a 23) (w - 1)))), (4, .int (iI r1)), (5, .int (iI r2))] [] _ _ _ _
                refine pm_e_sim pm_a209_172 rfl ?_
                show pm_E _ _ _ 173 [(0, .ref 18), (1, .int (iI i)), (2, .int (iI w)), (3, .int (iI ((a 23) (w - 1)))), (4, .int (iI r1)), (5, .int (iI r2))] [.ref 18] _ _ _ _
                refine pm_i_get pm_a209_173 rfl (mh_get (j := 0) hA rfl) rfl ?_
                show pm_E _ _ _ 176 [(0, .ref 18), (1, .int (iI i)), (2, .int (iI w)), (3, .int (iI ((a 23) (w - 1)))), (4, .int (iI r1)), (5, .int (iI r2))] [.ref 40] _ _ _ _
                refine pm_e_sim pm_a209_176 rfl ?_
                show pm_E _ _ _ 178 [(0, .ref 18), (1, .int (iI i)), (2, .int (iI w)), (3, .int (iI ((a 23) (w - 1)))), (4, .int (iI r1)), (5, .int (iI r2))] [.int (iI r2), .ref 40] _ _ _ _
                refine pm_i_ald pm_a209_178 (mh_get (j := 22) hA rfl) (by omega) (by omega) ⟨by omega, by omega⟩ ?_
                show pm_E _ _ _ 179 [(0, .ref 18), (1, .int (iI i)), (2, .int (iI w)), (3, .int (iI ((a 23) (w - 1)))), (4, .int (iI r1)), (5, .int (iI r2))] [.int (iI ((a 22) (r2)))] _ _ _ _
                refine pm_e_sim pm_a209_179 rfl ?_
                refine pm_e_top (y := iI 2) (by decide +kernel) ?_
                show pm_E _ _ _ 180 [(0, .ref 18), (1, .int (iI i)), (2, .int (iI w)), (3, .int (iI ((a 23) (w - 1)))), (4, .int (iI r1)), (5, .int (iI r2))] [.int (iI 2), .int (iI ((a 22) (r2)))] _ _ _ _
                refine pm_c_ge (t := 188) pm_a209_180 rfl ⟨by omega, by omega⟩ ⟨by omega, by omega⟩ (fun h_11 => ?_) (fun h_11 => ?_)
                · skip
                  show pm_E _ _ _ 188 [(0, .ref 18), (1, .int (iI i)), (2, .int (iI w)), (3, .int (iI ((a 23) (w - 1)))), (4, .int (iI r1)), (5, .int (iI r2))] [] _ _ _ _
                  refine pm_e_sim pm_a209_188 rfl ?_
                  refine pm_e_top (y := iI (-4)) (by decide +kernel) ?_
                  show pm_E _ _ _ 190 [(0, .ref 18), (1, .int (iI i)), (2, .int (iI w)), (3, .int (iI ((a 23) (w - 1)))), (4, .int (iI r1)), (5, .int (iI r2))] [.int (iI (-4))] _ _ _ _
                  refine pm_e_sim pm_a209_190 rfl ?_
                  show pm_E _ _ _ 192 [(0, .ref 18), (1, .int (iI i)), (2, .int (iI w)), (3, .int (iI ((a 23) (w - 1)))), (4, .int (iI r1)), (5, .int (iI r2)), (6, .int (iI (-4)))] [] _ _ _ _
                  refine pm_e_sim pm_a209_192 rfl ?_
                  show pm_E _ _ _ 194 [(0, .ref 18), (1, .int (iI i)), (2, .int (iI w)), (3, .int (iI ((a 23) (w - 1)))), (4, .int (iI r1)), (5, .int (iI r2)), (6, .int (iI (-4)))] [.int (iI (-4))] _ _ _ _
                  refine pm_e_sim pm_a209_194 rfl ?_
                  refine pm_e_top (y := iI (-4)) (by decide +kernel) ?_
                  show pm_E _ _ _ 196 [(0, .ref 18), (1, .int (iI i)), (2, .int (iI w)), (3, .int (iI ((a 23) (w - 1)))), (4, .int (iI r1)), (5, .int (iI r2)), (6, .int (iI (-4)))] [.int (iI (-4)), .int (iI (-4))] _ _ _ _
                  refine pm_e_icf pm_a209_196 rfl (by decide +kernel) ?_
                  show pm_E _ _ _ 199 [(0, .ref 18), (1, .int (iI i)), (2, .int (iI w)), (3, .int (iI ((a 23) (w - 1)))), (4, .int (iI r1)), (5, .int (iI r2)), (6, .int (iI (-4)))] [] _ _ _ _
                  refine pm_e_sim pm_a209_199 rfl ?_
                  show pm_E _ _ _ 200 [(0, .ref 18), (1, .int (iI i)), (2, .int (iI w)), (3, .int (iI ((a 23) (w - 1)))), (4, .int (iI r1)), (5, .int (iI r2)), (6, .int (iI (-4)))] [.ref 18] _ _ _ _
                  refine pm_i_get pm_a209_200 rfl (mh_get (j := 0) hA rfl) rfl ?_
                  show pm_E _ _ _ 203 [(0, .ref 18), (1, .int (iI i)), (2, .int (iI w)), (3, .int (iI ((a 23) (w - 1)))), (4, .int (iI r1)), (5, .int (iI r2)), (6, .int (iI (-4)))] [.ref 40] _ _ _ _
                  refine pm_e_sim pm_a209_203 rfl ?_
                  show pm_E _ _ _ 204 [(0, .ref 18), (1, .int (iI i)), (2, .int (iI w)), (3, .int (iI ((a 23) (w - 1)))), (4, .int (iI r1)), (5, .int (iI r2)), (6, .int (iI (-4)))] [.int (iI ((a 23) (w - 1))), .ref 40] _ _ _ _
                  refine pm_e_sim pm_a209_204 rfl ?_
                  refine pm_e_top (y := iI 2) (by decide +kernel) ?_
                  show pm_E _ _ _ 205 [(0, .ref 18), (1, .int (iI i)), (2, .int (iI w)), (3, .int (iI ((a 23) (w - 1)))), (4, .int (iI r1)), (5, .int (iI r2)), (6, .int (iI (-4)))] [.int (iI 2), .int (iI ((a 23) (w - 1))), .ref 40] _ _ _ _
                  refine pm_i_ast pm_a209_205 (mh_get (j := 22) hA rfl) (by omega) (by omega) ⟨by omega, by omega⟩ (ma_22 hA _) ?_
                  show pm_E _ _ _ 206 [(0, .ref 18), (1, .int (iI i)), (2, .int (iI w)), (3, .int (iI ((a 23) (w - 1)))), (4, .int (iI r1)), (5, .int (iI r2)), (6, .int (iI (-4)))] [] _ _ _ _
                  refine pm_e_inc (y := iI (w + (-1))) pm_a209_206 rfl (iI_add _ _) (by decide +kernel) rfl ?_
                  show pm_E _ _ _ 209 [(0, .ref 18), (1, .int (iI i)), (2, .int (iI (w + (-1)))), (3, .int (iI ((a 23) (w - 1)))), (4, .int (iI r1)), (5, .int (iI r2)), (6, .int (iI (-4)))] [] _ _ _ _
                  refine pm_e_goto pm_a209_209 rfl ?_
                  show pm_E _ _ _ 244 [(0, .ref 18), (1, .int (iI i)), (2, .int (iI (w + (-1)))), (3, .int (iI ((a 23) (w - 1)))), (4, .int (iI r1)), (5, .int (iI r2)), (6, .int (iI (-4)))] [] _ _ _ _
                  refine pm_e_goto pm_a209_244 rfl ?_
                  show pm_E _ _ _ 73 [(0, .ref 18), (1, .int (iI i)), (2, .int (iI (w + (-1)))), (3, .int (iI ((a 23) (w - 1)))), (4, .int (iI r1)), (5, .int (iI r2)), (6, .int (iI (-4)))] [] _ _ _ _
                  show pm_E _ _ _ 73 ([(0, .ref 18), (1, .int (iI i)), (2, .int (iI (w + (-1))))] ++ [(3, .int (iI ((a 23) (w - 1)))), (4, .int (iI r1)), (5, .int (iI r2)), (6, .int (iI (-4)))]) [] _ _ _ _
                  refine pm_e_more [(3, .int (iI ((a 23) (w - 1)))), (4, .int (iI r1)), (5, .int (iI r2)), (6, .int (iI (-4)))] (show ([0, 1, 2, 3, 4, 5, 6] : List Nat).Nodup from by decide) ?_
                  have h9 := cn0_dn (B := a 22) (g := (a 23) (w - 1)) (y := 2) (by omega) (n := (s 32).toNat)
                  have hD2 := DF_fin (x := (a 23) (w - 1)) hD (by omega) rfl hrc (fun _ => ⟨by rw [← e1]; omega, by rw [← e2]; omega⟩)
                  refine ih (w + -1) _ (by omega) (fun j h1 h2 => by simp [updA, h1, fA j h1 h2]) (fun j z y => ?_) (fun j z y => hpt j z (by omega)) ?_ hD2 (fun j z => ?_) k kf ?_
                  · show 0 ≤ updI (a 22) _ 2 j ∧ updI (a 22) _ 2 j ≤ 2; have := hmk j z y; unfold updI; split <;> omega
                  · show w + -1 + cn0 (updI (a 22) ((a 23) (w - 1)) 2) _ ≤ _; omega
                  · show updI (a 22) _ 2 j ≠ 0; have := hzp j z; unfold updI; split <;> omega
                  · show 2 * cn0 (updI (a 22) ((a 23) (w - 1)) 2) _ + (w + -1) < _; omega
                · skip
                  show pm_E _ _ _ 183 [(0, .ref 18), (1, .int (iI i)), (2, .int (iI w)), (3, .int (iI ((a 23) (w - 1)))), (4, .int (iI r1)), (5, .int (iI r2))] [] _ _ _ _
                  refine pm_e_sim pm_a209_183 rfl ?_
                  show pm_E _ _ _ 185 [(0, .ref 18), (1, .int (iI i)), (2, .int (iI w)), (3, .int (iI ((a 23) (w - 1)))), (4, .int (iI r1)), (5, .int (iI r2))] [.int (iI r2)] _ _ _ _
                  refine pm_e_goto pm_a209_185 rfl ?_
                  show pm_E _ _ _ 190 [(0, .ref 18), (1, .int (iI i)), (2, .int (iI w)), (3, .int (iI ((a 23) (w - 1)))), (4, .int (iI r1)), (5, .int (iI r2))] [.int (iI r2)] _ _ _ _
                  refine pm_e_sim pm_a209_190 rfl ?_
                  show pm_E _ _ _ 192 [(0, .ref 18), (1, .int (iI i)), (2, .int (iI w)), (3, .int (iI ((a 23) (w - 1)))), (4, .int (iI r1)), (5, .int (iI r2)), (6, .int (iI r2))] [] _ _ _ _
                  refine pm_e_sim pm_a209_192 rfl ?_
                  show pm_E _ _ _ 194 [(0, .ref 18), (1, .int (iI i)), (2, .int (iI w)), (3, .int (iI ((a 23) (w - 1)))), (4, .int (iI r1)), (5, .int (iI r2)), (6, .int (iI r2))] [.int (iI r2)] _ _ _ _
                  refine pm_e_sim pm_a209_194 rfl ?_
                  refine pm_e_top (y := iI (-4)) (by decide +kernel) ?_
                  show pm_E _ _ _ 196 [(0, .ref 18), (1, .int (iI i)), (2, .int (iI w)), (3, .int (iI ((a 23) (w - 1)))), (4, .int (iI r1)), (5, .int (iI r2)), (6, .int (iI r2))] [.int (iI (-4)), .int (iI r2)] _ _ _ _
                  refine pm_c_ne (t := 212) pm_a209_196 rfl ⟨by omega, by omega⟩ ⟨by omega, by omega⟩ (fun h_12 => ?_) (fun h_12 => ?_)
                  · skip
                    show pm_E _ _ _ 212 [(0, .ref 18), (1, .int (iI i)), (2, .int (iI w)), (3, .int (iI ((a 23) (w - 1)))), (4, .int (iI r1)), (5, .int (iI r2)), (6, .int (iI r2))] [] _ _ _ _
                    refine pm_e_sim pm_a209_212 rfl ?_
                    show pm_E _ _ _ 213 [(0, .ref 18), (1, .int (iI i)), (2, .int (iI w)), (3, .int (iI ((a 23) (w - 1)))), (4, .int (iI r1)), (5, .int (iI r2)), (6, .int (iI r2))] [.ref 18] _ _ _ _
                    refine pm_i_get pm_a209_213 rfl (mh_get (j := 0) hA rfl) rfl ?_
                    show pm_E _ _ _ 216 [(0, .ref 18), (1, .int (iI i)), (2, .int (iI w)), (3, .int (iI ((a 23) (w - 1)))), (4, .int (iI r1)), (5, .int (iI r2)), (6, .int (iI r2))] [.ref 40] _ _ _ _
                    refine pm_e_sim pm_a209_216 rfl ?_
                    show pm_E _ _ _ 218 [(0, .ref 18), (1, .int (iI i)), (2, .int (iI w)), (3, .int (iI ((a 23) (w - 1)))), (4, .int (iI r1)), (5, .int (iI r2)), (6, .int (iI r2))] [.int (iI r2), .ref 40] _ _ _ _
                    refine pm_i_ald pm_a209_218 (mh_get (j := 22) hA rfl) (by omega) (by omega) ⟨by omega, by omega⟩ ?_
                    show pm_E _ _ _ 219 [(0, .ref 18), (1, .int (iI i)), (2, .int (iI w)), (3, .int (iI ((a 23) (w - 1)))), (4, .int (iI r1)), (5, .int (iI r2)), (6, .int (iI r2))] [.int (iI ((a 22) (r2)))] _ _ _ _
                    refine pm_e_sim pm_a209_219 rfl ?_
                    refine pm_e_top (y := iI 1) (by decide +kernel) ?_
                    show pm_E _ _ _ 220 [(0, .ref 18), (1, .int (iI i)), (2, .int (iI w)), (3, .int (iI ((a 23) (w - 1)))), (4, .int (iI r1)), (5, .int (iI r2)), (6, .int (iI r2))] [.int (iI 1), .int (iI ((a 22) (r2)))] _ _ _ _
                    refine pm_c_ne (t := 225) pm_a209_220 rfl ⟨by omega, by omega⟩ ⟨by omega, by omega⟩ (fun h_13 => ?_) (fun h_13 => ?_)
                    · skip
                      show pm_E _ _ _ 225 [(0, .ref 18), (1, .int (iI i)), (2, .int (iI w)), (3, .int (iI ((a 23) (w - 1)))), (4, .int (iI r1)), (5, .int (iI r2)), (6, .int (iI r2))] [] _ _ _ _
                      refine pm_e_sim pm_a209_225 rfl ?_
                      show pm_E _ _ _ 226 [(0, .ref 18), (1, .int (iI i)), (2, .int (iI w)), (3, .int (iI ((a 23) (w - 1)))), (4, .int (iI r1)), (5, .int (iI r2)), (6, .int (iI r2))] [.ref 18] _ _ _ _
                      refine pm_i_get pm_a209_226 rfl (mh_get (j := 0) hA rfl) rfl ?_
                      show pm_E _ _ _ 229 [(0, .ref 18), (1, .int (iI i)), (2, .int (iI w)), (3, .int (iI ((a 23) (w - 1)))), (4, .int (iI r1)), (5, .int (iI r2)), (6, .int (iI r2))] [.ref 40] _ _ _ _
                      refine pm_e_sim pm_a209_229 rfl ?_
                      show pm_E _ _ _ 231 [(0, .ref 18), (1, .int (iI i)), (2, .int (iI w)), (3, .int (iI ((a 23) (w - 1)))), (4, .int (iI r1)), (5, .int (iI r2)), (6, .int (iI r2))] [.int (iI r2), .ref 40] _ _ _ _
                      refine pm_e_sim pm_a209_231 rfl ?_
                      refine pm_e_top (y := iI 1) (by decide +kernel) ?_
                      show pm_E _ _ _ 232 [(0, .ref 18), (1, .int (iI i)), (2, .int (iI w)), (3, .int (iI ((a 23) (w - 1)))), (4, .int (iI r1)), (5, .int (iI r2)), (6, .int (iI r2))] [.int (iI 1), .int (iI r2), .ref 40] _ _ _ _
                      refine pm_i_ast pm_a209_232 (mh_get (j := 22) hA rfl) (by omega) (by omega) ⟨by omega, by omega⟩ (ma_22 hA _) ?_
                      show pm_E _ _ _ 233 [(0, .ref 18), (1, .int (iI i)), (2, .int (iI w)), (3, .int (iI ((a 23) (w - 1)))), (4, .int (iI r1)), (5, .int (iI r2)), (6, .int (iI r2))] [] _ _ _ _
                      refine pm_e_sim pm_a209_233 rfl ?_
                      show pm_E _ _ _ 234 [(0, .ref 18), (1, .int (iI i)), (2, .int (iI w)), (3, .int (iI ((a 23) (w - 1)))), (4, .int (iI r1)), (5, .int (iI r2)), (6, .int (iI r2))] [.ref 18] _ _ _ _
                      refine pm_i_get pm_a209_234 rfl (mh_get (j := 0) hA rfl) rfl ?_
                      show pm_E _ _ _ 237 [(0, .ref 18), (1, .int (iI i)), (2, .int (iI w)), (3, .int (iI ((a 23) (w - 1)))), (4, .int (iI r1)), (5, .int (iI r2)), (6, .int (iI r2))] [.ref 41] _ _ _ _
                      refine pm_e_sim pm_a209_237 rfl ?_
                      show pm_E _ _ _ 238 [(0, .ref 18), (1, .int (iI i)), (2, .int (iI w)), (3, .int (iI ((a 23) (w - 1)))), (4, .int (iI r1)), (5, .int (iI r2)), (6, .int (iI r2))] [.int (iI w), .ref 41] _ _ _ _
                      refine pm_e_sim pm_a209_238 rfl ?_
                      show pm_E _ _ _ 240 [(0, .ref 18), (1, .int (iI i)), (2, .int (iI w)), (3, .int (iI ((a 23) (w - 1)))), (4, .int (iI r1)), (5, .int (iI r2)), (6, .int (iI r2))] [.int (iI r2), .int (iI w), .ref 41] _ _ _ _
                      refine pm_i_ast pm_a209_240 (mh_get (j := 23) hA rfl) (by omega) (by omega) ⟨by omega, by omega⟩ (ma_23 hA _) ?_
                      show pm_E _ _ _ 241 [(0, .ref 18), (1, .int (iI i)), (2, .int (iI w)), (3, .int (iI ((a 23) (w - 1)))), (4, .int (iI r1)), (5, .int (iI r2)), (6, .int (iI r2))] [] _ _ _ _
                      refine pm_e_inc (y := iI (w + 1)) pm_a209_241 rfl (iI_add _ _) (by decide +kernel) rfl ?_
                      show pm_E _ _ _ 244 [(0, .ref 18), (1, .int (iI i)), (2, .int (iI (w + 1))), (3, .int (iI ((a 23) (w - 1)))), (4, .int (iI r1)), (5, .int (iI r2)), (6, .int (iI r2))] [] _ _ _ _
                      refine pm_e_goto pm_a209_244 rfl ?_
                      show pm_E _ _ _ 73 [(0, .ref 18), (1, .int (iI i)), (2, .int (iI (w + 1))), (3, .int (iI ((a 23) (w - 1)))), (4, .int (iI r1)), (5, .int (iI r2)), (6, .int (iI r2))] [] _ _ _ _
                      show pm_E _ _ _ 73 ([(0, .ref 18), (1, .int (iI i)), (2, .int (iI (w + 1)))] ++ [(3, .int (iI ((a 23) (w - 1)))), (4, .int (iI r1)), (5, .int (iI r2)), (6, .int (iI r2))]) [] _ _ _ _
                      refine pm_e_more [(3, .int (iI ((a 23) (w - 1)))), (4, .int (iI r1)), (5, .int (iI r2)), (6, .int (iI r2))] (show ([0, 1, 2, 3, 4, 5, 6] : List Nat).Nodup from by decide) ?_
                      have h9 := cn0_up (B := a 22) (g := r2) (y := 1) (by omega) (by omega) (n := (s 32).toNat) (by omega) (by omega)
                      have h8 := cn0_le (B := updI (a 22) r2 1) (n := (s 32).toNat)
                      have hD2 := DF_push (g := r2) hD h0 ⟨by omega, by omega⟩ (by omega) (fun _ => ⟨by omega, by first | exact Or.inl e2.symm | exact Or.inr e2.symm⟩)
                      refine ih (w + 1) _ (by omega) (fun j h1 h2 => by simp [updA, h1, h2, fA j h1 h2]) (fun j z y => ?_) (fun j z y => ?_) ?_ hD2 (fun j z => ?_) k kf ?_
                      · show 0 ≤ updI (a 22) _ 1 j ∧ updI (a 22) _ 1 j ≤ 2; have := hmk j z y; unfold updI; split <;> omega
                      · show 0 ≤ updI (a 23) w _ j ∧ updI (a 23) w _ j < _
                        by_cases hj : j = w
                        · rw [hj, updI_s]; omega
                        · rw [updI_n _ _ hj]; exact hpt j z (by omega)
                      · show w + 1 + cn0 (updI (a 22) r2 1) _ ≤ _; omega
                      · show updI (a 22) _ 1 j ≠ 0; have := hzp j z; unfold updI; split <;> omega
                      · show 2 * cn0 (updI (a 22) r2 1) _ + (w + 1) < _; omega
                    · skip
                      show pm_E _ _ _ 223 [(0, .ref 18), (1, .int (iI i)), (2, .int (iI w)), (3, .int (iI ((a 23) (w - 1)))), (4, .int (iI r1)), (5, .int (iI r2)), (6, .int (iI r2))] [] _ _ _ _
                      refine pm_e_sim pm_a209_223 rfl ?_
                      refine pm_e_top (y := iI 0) (by decide +kernel) ?_
                      show pm_E _ _ _ 224 [(0, .ref 18), (1, .int (iI i)), (2, .int (iI w)), (3, .int (iI ((a 23) (w - 1)))), (4, .int (iI r1)), (5, .int (iI r2)), (6, .int (iI r2))] [.int (iI 0)] _ _ _ _
                      refine pm_e_ret pm_a209_224 rfl rfl rfl rfl rfl rfl rfl rfl ?_
                      have hcc : ∀ t, ¬ SOL (s 32) (-4) (a 18) (a 19) rt t := by
                        first
                        | exact DF_circ (g := r1) hD (by omega) ⟨by omega, by omega⟩ (by omega) ⟨by omega, Or.inl e1.symm⟩ hra.2
                        | exact DF_circ (g := r2) hD (by omega) ⟨by omega, by omega⟩ (by omega) ⟨by omega, Or.inr e2.symm⟩ hra.2
                      exact kf a fA (by rw [← e18, ← e19]; exact hcc)
                  · skip
                    show pm_E _ _ _ 199 [(0, .ref 18), (1, .int (iI i)), (2, .int (iI w)), (3, .int (iI ((a 23) (w - 1)))), (4, .int (iI r1)), (5, .int (iI r2)), (6, .int (iI r2))] [] _ _ _ _
                    refine pm_e_sim pm_a209_199 rfl ?_
                    show pm_E _ _ _ 200 [(0, .ref 18), (1, .int (iI i)), (2, .int (iI w)), (3, .int (iI ((a 23) (w - 1)))), (4, .int (iI r1)), (5, .int (iI r2)), (6, .int (iI r2))] [.ref 18] _ _ _ _
                    refine pm_i_get pm_a209_200 rfl (mh_get (j := 0) hA rfl) rfl ?_
                    show pm_E _ _ _ 203 [(0, .ref 18), (1, .int (iI i)), (2, .int (iI w)), (3, .int (iI ((a 23) (w - 1)))), (4, .int (iI r1)), (5, .int (iI r2)), (6, .int (iI r2))] [.ref 40] _ _ _ _
                    refine pm_e_sim pm_a209_203 rfl ?_
                    show pm_E _ _ _ 204 [(0, .ref 18), (1, .int (iI i)), (2, .int (iI w)), (3, .int (iI ((a 23) (w - 1)))), (4, .int (iI r1)), (5, .int (iI r2)), (6, .int (iI r2))] [.int (iI ((a 23) (w - 1))), .ref 40] _ _ _ _
                    refine pm_e_sim pm_a209_204 rfl ?_
                    refine pm_e_top (y := iI 2) (by decide +kernel) ?_
                    show pm_E _ _ _ 205 [(0, .ref 18), (1, .int (iI i)), (2, .int (iI w)), (3, .int (iI ((a 23) (w - 1)))), (4, .int (iI r1)), (5, .int (iI r2)), (6, .int (iI r2))] [.int (iI 2), .int (iI ((a 23) (w - 1))), .ref 40] _ _ _ _
                    refine pm_i_ast pm_a209_205 (mh_get (j := 22) hA rfl) (by omega) (by omega) ⟨by omega, by omega⟩ (ma_22 hA _) ?_
                    show pm_E _ _ _ 206 [(0, .ref 18), (1, .int (iI i)), (2, .int (iI w)), (3, .int (iI ((a 23) (w - 1)))), (4, .int (iI r1)), (5, .int (iI r2)), (6, .int (iI r2))] [] _ _ _ _
                    refine pm_e_inc (y := iI (w + (-1))) pm_a209_206 rfl (iI_add _ _) (by decide +kernel) rfl ?_
                    show pm_E _ _ _ 209 [(0, .ref 18), (1, .int (iI i)), (2, .int (iI (w + (-1)))), (3, .int (iI ((a 23) (w - 1)))), (4, .int (iI r1)), (5, .int (iI r2)), (6, .int (iI r2))] [] _ _ _ _
                    refine pm_e_goto pm_a209_209 rfl ?_
                    show pm_E _ _ _ 244 [(0, .ref 18), (1, .int (iI i)), (2, .int (iI (w + (-1)))), (3, .int (iI ((a 23) (w - 1)))), (4, .int (iI r1)), (5, .int (iI r2)), (6, .int (iI r2))] [] _ _ _ _
                    refine pm_e_goto pm_a209_244 rfl ?_
                    show pm_E _ _ _ 73 [(0, .ref 18), (1, .int (iI i)), (2, .int (iI (w + (-1)))), (3, .int (iI ((a 23) (w - 1)))), (4, .int (iI r1)), (5, .int (iI r2)), (6, .int (iI r2))] [] _ _ _ _
                    show pm_E _ _ _ 73 ([(0, .ref 18), (1, .int (iI i)), (2, .int (iI (w + (-1))))] ++ [(3, .int (iI ((a 23) (w - 1)))), (4, .int (iI r1)), (5, .int (iI r2)), (6, .int (iI r2))]) [] _ _ _ _
                    refine pm_e_more [(3, .int (iI ((a 23) (w - 1)))), (4, .int (iI r1)), (5, .int (iI r2)), (6, .int (iI r2))] (show ([0, 1, 2, 3, 4, 5, 6] : List Nat).Nodup from by decide) ?_
                    have h9 := cn0_dn (B := a 22) (g := (a 23) (w - 1)) (y := 2) (by omega) (n := (s 32).toNat)
                    have hD2 := DF_fin (x := (a 23) (w - 1)) hD (by omega) rfl hrc (fun _ => ⟨by rw [← e1]; omega, by rw [← e2]; omega⟩)
                    refine ih (w + -1) _ (by omega) (fun j h1 h2 => by simp [updA, h1, fA j h1 h2]) (fun j z y => ?_) (fun j z y => hpt j z (by omega)) ?_ hD2 (fun j z => ?_) k kf ?_
                    · show 0 ≤ updI (a 22) _ 2 j ∧ updI (a 22) _ 2 j ≤ 2; have := hmk j z y; unfold updI; split <;> omega
                    · show w + -1 + cn0 (updI (a 22) ((a 23) (w - 1)) 2) _ ≤ _; omega
                    · show updI (a 22) _ 2 j ≠ 0; have := hzp j z; unfold updI; split <;> omega
                    · show 2 * cn0 (updI (a 22) ((a 23) (w - 1)) 2) _ + (w + -1) < _; omega
            · skip
              show pm_E _ _ _ 160 [(0, .ref 18), (1, .int (iI i)), (2, .int (iI w)), (3, .int (iI ((a 23) (w - 1)))), (4, .int (iI r1)), (5, .int (iI r2))] [] _ _ _ _
              refine pm_e_sim pm_a209_160 rfl ?_
              show pm_E _ _ _ 162 [(0, .ref 18), (1, .int (iI i)), (2, .int (iI w)), (3, .int (iI ((a 23) (w - 1)))), (4, .int (iI r1)), (5, .int (iI r2))] [.int (iI r1)] _ _ _ _
              refine pm_e_goto pm_a209_162 rfl ?_
              show pm_E _ _ _ 190 [(0, .ref 18), (1, .int (iI i)), (2, .int (iI w)), (3, .int (iI ((a 23) (w - 1)))), (4, .int (iI r1)), (5, .int (iI r2))] [.int (iI r1)] _ _ _ _
              refine pm_e_sim pm_a209_190 rfl ?_
              show pm_E _ _ _ 192 [(0, .ref 18), (1, .int (iI i)), (2, .int (iI w)), (3, .int (iI ((a 23) (w - 1)))), (4, .int (iI r1)), (5, .int (iI r2)), (6, .int (iI r1))] [] _ _ _ _
              refine pm_e_sim pm_a209_192 rfl ?_
              show pm_E _ _ _ 194 [(0, .ref 18), (1, .int (iI i)), (2, .int (iI w)), (3, .int (iI ((a 23) (w - 1)))), (4, .int (iI r1)), (5, .int (iI r2)), (6, .int (iI r1))] [.int (iI r1)] _ _ _ _
              refine pm_e_sim pm_a209_194 rfl ?_
              refine pm_e_top (y := iI (-4)) (by decide +kernel) ?_
              show pm_E _ _ _ 196 [(0, .ref 18), (1, .int (iI i)), (2, .int (iI w)), (3, .int (iI ((a 23) (w - 1)))), (4, .int (iI r1)), (5, .int (iI r2)), (6, .int (iI r1))] [.int (iI (-4)), .int (iI r1)] _ _ _ _
              refine pm_c_ne (t := 212) pm_a209_196 rfl ⟨by omega, by omega⟩ ⟨by omega, by omega⟩ (fun h_14 => ?_) (fun h_14 => ?_)
              · skip
                show pm_E _ _ _ 212 [(0, .ref 18), (1, .int (iI i)), (2, .int (iI w)), (3, .int (iI ((a 23) (w - 1)))), (4, .int (iI r1)), (5, .int (iI r2)), (6, .int (iI r1))] [] _ _ _ _
                refine pm_e_sim pm_a209_212 rfl ?_
                show pm_E _ _ _ 213 [(0, .ref 18), (1, .int (iI i)), (2, .int (iI w)), (3, .int (iI ((a 23) (w - 1)))), (4, .int (iI r1)), (5, .int (iI r2)), (6, .int (iI r1))] [.ref 18] _ _ _ _
                refine pm_i_get pm_a209_213 rfl (mh_get (j := 0) hA rfl) rfl ?_
                show pm_E _ _ _ 216 [(0, .ref 18), (1, .int (iI i)), (2, .int (iI w)), (3, .int (iI ((a 23) (w - 1)))), (4, .int (iI r1)), (5, .int (iI r2)), (6, .int (iI r1))] [.ref 40] _ _ _ _
                refine pm_e_sim pm_a209_216 rfl ?_
                show pm_E _ _ _ 218 [(0, .ref 18), (1, .int (iI i)), (2, .int (iI w)), (3, .int (iI ((a 23) (w - 1)))), (4, .int (iI r1)), (5, .int (iI r2)), (6, .int (iI r1))] [.int (iI r1), .ref 40] _ _ _ _
                refine pm_i_ald pm_a209_218 (mh_get (j := 22) hA rfl) (by omega) (by omega) ⟨by omega, by omega⟩ ?_
                show pm_E _ _ _ 219 [(0, .ref 18), (1, .int (iI i)), (2, .int (iI w)), (3, .int (iI ((a 23) (w - 1)))), (4, .int (iI r1)), (5, .int (iI r2)), (6, .int (iI r1))] [.int (iI ((a 22) (r1)))] _ _ _ _
                refine pm_e_sim pm_a209_219 rfl ?_
                refine pm_e_top (y := iI 1) (by decide +kernel) ?_
                show pm_E _ _ _ 220 [(0, .ref 18), (1, .int (iI i)), (2, .int (iI w)), (3, .int (iI ((a 23) (w - 1)))), (4, .int (iI r1)), (5, .int (iI r2)), (6, .int (iI r1))] [.int (iI 1), .int (iI ((a 22) (r1)))] _ _ _ _
                refine pm_c_ne (t := 225) pm_a209_220 rfl ⟨by omega, by omega⟩ ⟨by omega, by omega⟩ (fun h_15 => ?_) (fun h_15 => ?_)
                · skip
                  show pm_E _ _ _ 225 [(0, .ref 18), (1, .int (iI i)), (2, .int (iI w)), (3, .int (iI ((a 23) (w - 1)))), (4, .int (iI r1)), (5, .int (iI r2)), (6, .int (iI r1))] [] _ _ _ _
                  refine pm_e_sim pm_a209_225 rfl ?_
                  show pm_E _ _ _ 226 [(0, .ref 18), (1, .int (iI i)), (2, .int (iI w)), (3, .int (iI ((a 23) (w - 1)))), (4, .int (iI r1)), (5, .int (iI r2)), (6, .int (iI r1))] [.ref 18] _ _ _ _
                  refine pm_i_get pm_a209_226 rfl (mh_get (j := 0) hA rfl) rfl ?_
                  show pm_E _ _ _ 229 [(0, .ref 18), (1, .int (iI i)), (2, .int (iI w)), (3, .int (iI ((a 23) (w - 1)))), (4, .int (iI r1)), (5, .int (iI r2)), (6, .int (iI r1))] [.ref 40] _ _ _ _
                  refine pm_e_sim pm_a209_229 rfl ?_
                  show pm_E _ _ _ 231 [(0, .ref 18), (1, .int (iI i)), (2, .int (iI w)), (3, .int (iI ((a 23) (w - 1)))), (4, .int (iI r1)), (5, .int (iI r2)), (6, .int (iI r1))] [.int (iI r1), .ref 40] _ _ _ _
                  refine pm_e_sim pm_a209_231 rfl ?_
                  refine pm_e_top (y := iI 1) (by decide +kernel) ?_
                  show pm_E _ _ _ 232 [(0, .ref 18), (1, .int (iI i)), (2, .int (iI w)), (3, .int (iI ((a 23) (w - 1)))), (4, .int (iI r1)), (5, .int (iI r2)), (6, .int (iI r1))] [.int (iI 1), .int (iI r1), .ref 40] _ _ _ _
                  refine pm_i_ast pm_a209_232 (mh_get (j := 22) hA rfl) (by omega) (by omega) ⟨by omega, by omega⟩ (ma_22 hA _) ?_
                  show pm_E _ _ _ 233 [(0, .ref 18), (1, .int (iI i)), (2, .int (iI w)), (3, .int (iI ((a 23) (w - 1)))), (4, .int (iI r1)), (5, .int (iI r2)), (6, .int (iI r1))] [] _ _ _ _
                  refine pm_e_sim pm_a209_233 rfl ?_
                  show pm_E _ _ _ 234 [(0, .ref 18), (1, .int (iI i)), (2, .int (iI w)), (3, .int (iI ((a 23) (w - 1)))), (4, .int (iI r1)), (5, .int (iI r2)), (6, .int (iI r1))] [.ref 18] _ _ _ _
                  refine pm_i_get pm_a209_234 rfl (mh_get (j := 0) hA rfl) rfl ?_
                  show pm_E _ _ _ 237 [(0, .ref 18), (1, .int (iI i)), (2, .int (iI w)), (3, .int (iI ((a 23) (w - 1)))), (4, .int (iI r1)), (5, .int (iI r2)), (6, .int (iI r1))] [.ref 41] _ _ _ _
                  refine pm_e_sim pm_a209_237 rfl ?_
                  show pm_E _ _ _ 238 [(0, .ref 18), (1, .int (iI i)), (2, .int (iI w)), (3, .int (iI ((a 23) (w - 1)))), (4, .int (iI r1)), (5, .int (iI r2)), (6, .int (iI r1))] [.int (iI w), .ref 41] _ _ _ _
                  refine pm_e_sim pm_a209_238 rfl ?_
                  show pm_E _ _ _ 240 [(0, .ref 18), (1, .int (iI i)), (2, .int (iI w)), (3, .int (iI ((a 23) (w - 1)))), (4, .int (iI r1)), (5, .int (iI r2)), (6, .int (iI r1))] [.int (iI r1), .int (iI w), .ref 41] _ _ _ _
                  refine pm_i_ast pm_a209_240 (mh_get (j := 23) hA rfl) (by omega) (by omega) ⟨by omega, by omega⟩ (ma_23 hA _) ?_
                  show pm_E _ _ _ 241 [(0, .ref 18), (1, .int (iI i)), (2, .int (iI w)), (3, .int (iI ((a 23) (w - 1)))), (4, .int (iI r1)), (5, .int (iI r2)), (6, .int (iI r1))] [] _ _ _ _
                  refine pm_e_inc (y := iI (w + 1)) pm_a209_241 rfl (iI_add _ _) (by decide +kernel) rfl ?_
                  show pm_E _ _ _ 244 [(0, .ref 18), (1, .int (iI i)), (2, .int (iI (w + 1))), (3, .int (iI ((a 23) (w - 1)))), (4, .int (iI r1)), (5, .int (iI r2)), (6, .int (iI r1))] [] _ _ _ _
                  refine pm_e_goto pm_a209_244 rfl ?_
                  show pm_E _ _ _ 73 [(0, .ref 18), (1, .int (iI i)), (2, .int (iI (w + 1))), (3, .int (iI ((a 23) (w - 1)))), (4, .int (iI r1)), (5, .int (iI r2)), (6, .int (iI r1))] [] _ _ _ _
                  show pm_E _ _ _ 73 ([(0, .ref 18), (1, .int (iI i)), (2, .int (iI (w + 1)))] ++ [(3, .int (iI ((a 23) (w - 1)))), (4, .int (iI r1)), (5, .int (iI r2)), (6, .int (iI r1))]) [] _ _ _ _
                  refine pm_e_more [(3, .int (iI ((a 23) (w - 1)))), (4, .int (iI r1)), (5, .int (iI r2)), (6, .int (iI r1))] (show ([0, 1, 2, 3, 4, 5, 6] : List Nat).Nodup from by decide) ?_
                  have h9 := cn0_up (B := a 22) (g := r1) (y := 1) (by omega) (by omega) (n := (s 32).toNat) (by omega) (by omega)
                  have h8 := cn0_le (B := updI (a 22) r1 1) (n := (s 32).toNat)
                  have hD2 := DF_push (g := r1) hD h0 ⟨by omega, by omega⟩ (by omega) (fun _ => ⟨by omega, by first | exact Or.inl e1.symm | exact Or.inr e1.symm⟩)
                  refine ih (w + 1) _ (by omega) (fun j h1 h2 => by simp [updA, h1, h2, fA j h1 h2]) (fun j z y => ?_) (fun j z y => ?_) ?_ hD2 (fun j z => ?_) k kf ?_
                  · show 0 ≤ updI (a 22) _ 1 j ∧ updI (a 22) _ 1 j ≤ 2; have := hmk j z y; unfold updI; split <;> omega
                  · show 0 ≤ updI (a 23) w _ j ∧ updI (a 23) w _ j < _
                    by_cases hj : j = w
                    · rw [hj, updI_s]; omega
                    · rw [updI_n _ _ hj]; exact hpt j z (by omega)
                  · show w + 1 + cn0 (updI (a 22) r1 1) _ ≤ _; omega
                  · show updI (a 22) _ 1 j ≠ 0; have := hzp j z; unfold updI; split <;> omega
                  · show 2 * cn0 (updI (a 22) r1 1) _ + (w + 1) < _; omega
                · skip
                  show pm_E _ _ _ 223 [(0, .ref 18), (1, .int (iI i)), (2, .int (iI w)), (3, .int (iI ((a 23) (w - 1)))), (4, .int (iI r1)), (5, .int (iI r2)), (6, .int (iI r1))] [] _ _ _ _
                  refine pm_e_sim pm_a209_223 rfl ?_
                  refine pm_e_top (y := iI 0) (by decide +kernel) ?_
                  show pm_E _ _ _ 224 [(0, .ref 18), (1, .int (iI i)), (2, .int (iI w)), (3, .int (iI ((a 23) (w - 1)))), (4, .int (iI r1)), (5, .int (iI r2)), (6, .int (iI r1))] [.int (iI 0)] _ _ _ _
                  refine pm_e_ret pm_a209_224 rfl rfl rfl rfl rfl rfl rfl rfl ?_
                  have hcc : ∀ t, ¬ SOL (s 32) (-4) (a 18) (a 19) rt t := by
                    first
                    | exact DF_circ (g := r1) hD (by omega) ⟨by omega, by omega⟩ (by omega) ⟨by omega, Or.inl e1.symm⟩ hra.2
                    | exact DF_circ (g := r2) hD (by omega) ⟨by omega, by omega⟩ (by omega) ⟨by omega, Or.inr e2.symm⟩ hra.2
                  exact kf a fA (by rw [← e18, ← e19]; exact hcc)
              · skip
                show pm_E _ _ _ 199 [(0, .ref 18), (1, .int (iI i)), (2, .int (iI w)), (3, .int (iI ((a 23) (w - 1)))), (4, .int (iI r1)), (5, .int (iI r2)), (6, .int (iI r1))] [] _ _ _ _
                refine pm_e_sim pm_a209_199 rfl ?_
                show pm_E _ _ _ 200 [(0, .ref 18), (1, .int (iI i)), (2, .int (iI w)), (3, .int (iI ((a 23) (w - 1)))), (4, .int (iI r1)), (5, .int (iI r2)), (6, .int (iI r1))] [.ref 18] _ _ _ _
                refine pm_i_get pm_a209_200 rfl (mh_get (j := 0) hA rfl) rfl ?_
                show pm_E _ _ _ 203 [(0, .ref 18), (1, .int (iI i)), (2, .int (iI w)), (3, .int (iI ((a 23) (w - 1)))), (4, .int (iI r1)), (5, .int (iI r2)), (6, .int (iI r1))] [.ref 40] _ _ _ _
                refine pm_e_sim pm_a209_203 rfl ?_
                show pm_E _ _ _ 204 [(0, .ref 18), (1, .int (iI i)), (2, .int (iI w)), (3, .int (iI ((a 23) (w - 1)))), (4, .int (iI r1)), (5, .int (iI r2)), (6, .int (iI r1))] [.int (iI ((a 23) (w - 1))), .ref 40] _ _ _ _
                refine pm_e_sim pm_a209_204 rfl ?_
                refine pm_e_top (y := iI 2) (by decide +kernel) ?_
                show pm_E _ _ _ 205 [(0, .ref 18), (1, .int (iI i)), (2, .int (iI w)), (3, .int (iI ((a 23) (w - 1)))), (4, .int (iI r1)), (5, .int (iI r2)), (6, .int (iI r1))] [.int (iI 2), .int (iI ((a 23) (w - 1))), .ref 40] _ _ _ _
                refine pm_i_ast pm_a209_205 (mh_get (j := 22) hA rfl) (by omega) (by omega) ⟨by omega, by omega⟩ (ma_22 hA _) ?_
                show pm_E _ _ _ 206 [(0, .ref 18), (1, .int (iI i)), (2, .int (iI w)), (3, .int (iI ((a 23) (w - 1)))), (4, .int (iI r1)), (5, .int (iI r2)), (6, .int (iI r1))] [] _ _ _ _
                refine pm_e_inc (y := iI (w + (-1))) pm_a209_206 rfl (iI_add _ _) (by decide +kernel) rfl ?_
                show pm_E _ _ _ 209 [(0, .ref 18), (1, .int (iI i)), (2, .int (iI (w + (-1)))), (3, .int (iI ((a 23) (w - 1)))), (4, .int (iI r1)), (5, .int (iI r2)), (6, .int (iI r1))] [] _ _ _ _
                refine pm_e_goto pm_a209_209 rfl ?_
                show pm_E _ _ _ 244 [(0, .ref 18), (1, .int (iI i)), (2, .int (iI (w + (-1)))), (3, .int (iI ((a 23) (w - 1)))), (4, .int (iI r1)), (5, .int (iI r2)), (6, .int (iI r1))] [] _ _ _ _
                refine pm_e_goto pm_a209_244 rfl ?_
                show pm_E _ _ _ 73 [(0, .ref 18), (1, .int (iI i)), (2, .int (iI (w + (-1)))), (3, .int (iI ((a 23) (w - 1)))), (4, .int (iI r1)), (5, .int (iI r2)), (6, .int (iI r1))] [] _ _ _ _
                show pm_E _ _ _ 73 ([(0, .ref 18), (1, .int (iI i)), (2, .int (iI (w + (-1))))] ++ [(3, .int (iI ((a 23) (w - 1)))), (4, .int (iI r1)), (5, .int (iI r2)), (6, .int (iI r1))]) [] _ _ _ _
                refine pm_e_more [(3, .int (iI ((a 23) (w - 1)))), (4, .int (iI r1)), (5, .int (iI r2)), (6, .int (iI r1))] (show ([0, 1, 2, 3, 4, 5, 6] : List Nat).Nodup from by decide) ?_
                have h9 := cn0_dn (B := a 22) (g := (a 23) (w - 1)) (y := 2) (by omega) (n := (s 32).toNat)
                have hD2 := DF_fin (x := (a 23) (w - 1)) hD (by omega) rfl hrc (fun _ => ⟨by rw [← e1]; omega, by rw [← e2]; omega⟩)
                refine ih (w + -1) _ (by omega) (fun j h1 h2 => by simp [updA, h1, fA j h1 h2]) (fun j z y => ?_) (fun j z y => hpt j z (by omega)) ?_ hD2 (fun j z => ?_) k kf ?_
                · show 0 ≤ updI (a 22) _ 2 j ∧ updI (a 22) _ 2 j ≤ 2; have := hmk j z y; unfold updI; split <;> omega
                · show w + -1 + cn0 (updI (a 22) ((a 23) (w - 1)) 2) _ ≤ _; omega
                · show updI (a 22) _ 2 j ≠ 0; have := hzp j z; unfold updI; split <;> omega
                · show 2 * cn0 (updI (a 22) ((a 23) (w - 1)) 2) _ + (w + -1) < _; omega
        · skip
          show pm_E _ _ _ 125 [(0, .ref 18), (1, .int (iI i)), (2, .int (iI w)), (3, .int (iI ((a 23) (w - 1)))), (4, .int (iI r1))] [] _ _ _ _
          refine pm_e_sim pm_a209_125 rfl ?_
          refine pm_e_top (y := iI (-4)) (by decide +kernel) ?_
          show pm_E _ _ _ 127 [(0, .ref 18), (1, .int (iI i)), (2, .int (iI w)), (3, .int (iI ((a 23) (w - 1)))), (4, .int (iI r1))] [.int (iI (-4))] _ _ _ _
          refine pm_e_goto pm_a209_127 rfl ?_
          show pm_E _ _ _ 140 [(0, .ref 18), (1, .int (iI i)), (2, .int (iI w)), (3, .int (iI ((a 23) (w - 1)))), (4, .int (iI r1))] [.int (iI (-4))] _ _ _ _
          refine pm_e_sim pm_a209_140 rfl ?_
          show pm_E _ _ _ 142 [(0, .ref 18), (1, .int (iI i)), (2, .int (iI w)), (3, .int (iI ((a 23) (w - 1)))), (4, .int (iI r1)), (5, .int (iI (-4)))] [] _ _ _ _
          refine pm_e_sim pm_a209_142 rfl ?_
          show pm_E _ _ _ 144 [(0, .ref 18), (1, .int (iI i)), (2, .int (iI w)), (3, .int (iI ((a 23) (w - 1)))), (4, .int (iI r1)), (5, .int (iI (-4)))] [.int (iI r1)] _ _ _ _
          refine pm_e_sim pm_a209_144 rfl ?_
          refine pm_e_top (y := iI (-4)) (by decide +kernel) ?_
          show pm_E _ _ _ 146 [(0, .ref 18), (1, .int (iI i)), (2, .int (iI w)), (3, .int (iI ((a 23) (w - 1)))), (4, .int (iI r1)), (5, .int (iI (-4)))] [.int (iI (-4)), .int (iI r1)] _ _ _ _
          refine pm_c_eq (t := 165) pm_a209_146 rfl ⟨by omega, by omega⟩ ⟨by omega, by omega⟩ (fun h_16 => ?_) (fun h_16 => ?_)
          · skip
            show pm_E _ _ _ 165 [(0, .ref 18), (1, .int (iI i)), (2, .int (iI w)), (3, .int (iI ((a 23) (w - 1)))), (4, .int (iI r1)), (5, .int (iI (-4)))] [] _ _ _ _
            refine pm_e_sim pm_a209_165 rfl ?_
            show pm_E _ _ _ 167 [(0, .ref 18), (1, .int (iI i)), (2, .int (iI w)), (3, .int (iI ((a 23) (w - 1)))), (4, .int (iI r1)), (5, .int (iI (-4)))] [.int (iI (-4))] _ _ _ _
            refine pm_e_sim pm_a209_167 rfl ?_
            refine pm_e_top (y := iI (-4)) (by decide +kernel) ?_
            show pm_E _ _ _ 169 [(0, .ref 18), (1, .int (iI i)), (2, .int (iI w)), (3, .int (iI ((a 23) (w - 1)))), (4, .int (iI r1)), (5, .int (iI (-4)))] [.int (iI (-4)), .int (iI (-4))] _ _ _ _
            refine pm_e_ict pm_a209_169 rfl (by decide +kernel) ?_
            show pm_E _ _ _ 188 [(0, .ref 18), (1, .int (iI i)), (2, .int (iI w)), (3, .int (iI ((a 23) (w - 1)))), (4, .int (iI r1)), (5, .int (iI (-4)))] [] _ _ _ _
            refine pm_e_sim pm_a209_188 rfl ?_
            refine pm_e_top (y := iI (-4)) (by decide +kernel) ?_
            show pm_E _ _ _ 190 [(0, .ref 18), (1, .int (iI i)), (2, .int (iI w)), (3, .int (iI ((a 23) (w - 1)))), (4, .int (iI r1)), (5, .int (iI (-4)))] [.int (iI (-4))] _ _ _ _
            refine pm_e_sim pm_a209_190 rfl ?_
            show pm_E _ _ _ 192 [(0, .ref 18), (1, .int (iI i)), (2, .int (iI w)), (3, .int (iI ((a 23) (w - 1)))), (4, .int (iI r1)), (5, .int (iI (-4))), (6, .int (iI (-4)))] [] _ _ _ _
            refine pm_e_sim pm_a209_192 rfl ?_
            show pm_E _ _ _ 194 [(0, .ref 18), (1, .int (iI i)), (2, .int (iI w)), (3, .int (iI ((a 23) (w - 1)))), (4, .int (iI r1)), (5, .int (iI (-4))), (6, .int (iI (-4)))] [.int (iI (-4))] _ _ _ _
            refine pm_e_sim pm_a209_194 rfl ?_
            refine pm_e_top (y := iI (-4)) (by decide +kernel) ?_
            show pm_E _ _ _ 196 [(0, .ref 18), (1, .int (iI i)), (2, .int (iI w)), (3, .int (iI ((a 23) (w - 1)))), (4, .int (iI r1)), (5, .int (iI (-4))), (6, .int (iI (-4)))] [.int (iI (-4)), .int (iI (-4))] _ _ _ _
            refine pm_e_icf pm_a209_196 rfl (by decide +kernel) ?_
            show pm_E _ _ _ 199 [(0, .ref 18), (1, .int (iI i)), (2, .int (iI w)), (3, .int (iI ((a 23) (w - 1)))), (4, .int (iI r1)), (5, .int (iI (-4))), (6, .int (iI (-4)))] [] _ _ _ _
            refine pm_e_sim pm_a209_199 rfl ?_
            show pm_E _ _ _ 200 [(0, .ref 18), (1, .int (iI i)), (2, .int (iI w)), (3, .int (iI ((a 23) (w - 1)))), (4, .int (iI r1)), (5, .int (iI (-4))), (6, .int (iI (-4)))] [.ref 18] _ _ _ _
            refine pm_i_get pm_a209_200 rfl (mh_get (j := 0) hA rfl) rfl ?_
            show pm_E _ _ _ 203 [(0, .ref 18), (1, .int (iI i)), (2, .int (iI w)), (3, .int (iI ((a 23) (w - 1)))), (4, .int (iI r1)), (5, .int (iI (-4))), (6, .int (iI (-4)))] [.ref 40] _ _ _ _
            refine pm_e_sim pm_a209_203 rfl ?_
            show pm_E _ _ _ 204 [(0, .ref 18), (1, .int (iI i)), (2, .int (iI w)), (3, .int (iI ((a 23) (w - 1)))), (4, .int (iI r1)), (5, .int (iI (-4))), (6, .int (iI (-4)))] [.int (iI ((a 23) (w - 1))), .ref 40] _ _ _ _
            refine pm_e_sim pm_a209_204 rfl ?_
            refine pm_e_top (y := iI 2) (by decide +kernel) ?_
            show pm_E _ _ _ 205 [(0, .ref 18), (1, .int (iI i)), (2, .int (iI w)), (3, .int (iI ((a 23) (w - 1)))), (4, .int (iI r1)), (5, .int (iI (-4))), (6, .int (iI (-4)))] [.int (iI 2), .int (iI ((a 23) (w - 1))), .ref 40] _ _ _ _
            refine pm_i_ast pm_a209_205 (mh_get (j := 22) hA rfl) (by omega) (by omega) ⟨by omega, by omega⟩ (ma_22 hA _) ?_
            show pm_E _ _ _ 206 [(0, .ref 18), (1, .int (iI i)), (2, .int (iI w)), (3, .int (iI ((a 23) (w - 1)))), (4, .int (iI r1)), (5, .int (iI (-4))), (6, .int (iI (-4)))] [] _ _ _ _
            refine pm_e_inc (y := iI (w + (-1))) pm_a209_206 rfl (iI_add _ _) (by decide +kernel) rfl ?_
            show pm_E _ _ _ 209 [(0, .ref 18), (1, .int (iI i)), (2, .int (iI (w + (-1)))), (3, .int (iI ((a 23) (w - 1)))), (4, .int (iI r1)), (5, .int (iI (-4))), (6, .int (iI (-4)))] [] _ _ _ _
            refine pm_e_goto pm_a209_209 rfl ?_
            show pm_E _ _ _ 244 [(0, .ref 18), (1, .int (iI i)), (2, .int (iI (w + (-1)))), (3, .int (iI ((a 23) (w - 1)))), (4, .int (iI r1)), (5, .int (iI (-4))), (6, .int (iI (-4)))] [] _ _ _ _
            refine pm_e_goto pm_a209_244 rfl ?_
            show pm_E _ _ _ 73 [(0, .ref 18), (1, .int (iI i)), (2, .int (iI (w + (-1)))), (3, .int (iI ((a 23) (w - 1)))), (4, .int (iI r1)), (5, .int (iI (-4))), (6, .int (iI (-4)))] [] _ _ _ _
            show pm_E _ _ _ 73 ([(0, .ref 18), (1, .int (iI i)), (2, .int (iI (w + (-1))))] ++ [(3, .int (iI ((a 23) (w - 1)))), (4, .int (iI r1)), (5, .int (iI (-4))), (6, .int (iI (-4)))]) [] _ _ _ _
            refine pm_e_more [(3, .int (iI ((a 23) (w - 1)))), (4, .int (iI r1)), (5, .int (iI (-4))), (6, .int (iI (-4)))] (show ([0, 1, 2, 3, 4, 5, 6] : List Nat).Nodup from by decide) ?_
            have h9 := cn0_dn (B := a 22) (g := (a 23) (w - 1)) (y := 2) (by omega) (n := (s 32).toNat)
            have hD2 := DF_fin (x := (a 23) (w - 1)) hD (by omega) rfl hrc (fun z9 => absurd z9 (by omega))
            refine ih (w + -1) _ (by omega) (fun j h1 h2 => by simp [updA, h1, fA j h1 h2]) (fun j z y => ?_) (fun j z y => hpt j z (by omega)) ?_ hD2 (fun j z => ?_) k kf ?_
            · show 0 ≤ updI (a 22) _ 2 j ∧ updI (a 22) _ 2 j ≤ 2; have := hmk j z y; unfold updI; split <;> omega
            · show w + -1 + cn0 (updI (a 22) ((a 23) (w - 1)) 2) _ ≤ _; omega
            · show updI (a 22) _ 2 j ≠ 0; have := hzp j z; unfold updI; split <;> omega
            · show 2 * cn0 (updI (a 22) ((a 23) (w - 1)) 2) _ + (w + -1) < _; omega
          · skip
            show pm_E _ _ _ 149 [(0, .ref 18), (1, .int (iI i)), (2, .int (iI w)), (3, .int (iI ((a 23) (w - 1)))), (4, .int (iI r1)), (5, .int (iI (-4)))] [] _ _ _ _
            refine pm_e_sim pm_a209_149 rfl ?_
            show pm_E _ _ _ 150 [(0, .ref 18), (1, .int (iI i)), (2, .int (iI w)), (3, .int (iI ((a 23) (w - 1)))), (4, .int (iI r1)), (5, .int (iI (-4)))] [.ref 18] _ _ _ _
            refine pm_i_get pm_a209_150 rfl (mh_get (j := 0) hA rfl) rfl ?_
            show pm_E _ _ _ 153 [(0, .ref 18), (1, .int (iI i)), (2, .int (iI w)), (3, .int (iI ((a 23) (w - 1)))), (4, .int (iI r1)), (5, .int (iI (-4)))] [.ref 40] _ _ _ _
            refine pm_e_sim pm_a209_153 rfl ?_
            show pm_E _ _ _ 155 [(0, .ref 18), (1, .int (iI i)), (2, .int (iI w)), (3, .int (iI ((a 23) (w - 1)))), (4, .int (iI r1)), (5, .int (iI (-4)))] [.int (iI r1), .ref 40] _ _ _ _
            refine pm_i_ald pm_a209_155 (mh_get (j := 22) hA rfl) (by omega) (by omega) ⟨by omega, by omega⟩ ?_
            show pm_E _ _ _ 156 [(0, .ref 18), (1, .int (iI i)), (2, .int (iI w)), (3, .int (iI ((a 23) (w - 1)))), (4, .int (iI r1)), (5, .int (iI (-4)))] [.int (iI ((a 22) (r1)))] _ _ _ _
            refine pm_e_sim pm_a209_156 rfl ?_
            refine pm_e_top (y := iI 2) (by decide +kernel) ?_
            show pm_E _ _ _ 157 [(0, .ref 18), (1, .int (iI i)), (2, .int (iI w)), (3, .int (iI ((a 23) (w - 1)))), (4, .int (iI r1)), (5, .int (iI (-4)))] [.int (iI 2), .int (iI ((a 22) (r1)))] _ _ _ _
            refine pm_c_ge (t := 165) pm_a209_157 rfl ⟨by omega, by omega⟩ ⟨by omega, by omega⟩ (fun h_17 => ?_) (fun h_17 => ?_)
            · skip
              show pm_E _ _ _ 165 [(0, .ref 18), (1, .int (iI i)), (2, .int (iI w)), (3, .int (iI ((a 23) (w - 1)))), (4, .int (iI r1)), (5, .int (iI (-4)))] [] _ _ _ _
              refine pm_e_sim pm_a209_165 rfl ?_
              show pm_E _ _ _ 167 [(0, .ref 18), (1, .int (iI i)), (2, .int (iI w)), (3, .int (iI ((a 23) (w - 1)))), (4, .int (iI r1)), (5, .int (iI (-4)))] [.int (iI (-4))] _ _ _ _
              refine pm_e_sim pm_a209_167 rfl ?_
              refine pm_e_top (y := iI (-4)) (by decide +kernel) ?_
              show pm_E _ _ _ 169 [(0, .ref 18), (1, .int (iI i)), (2, .int (iI w)), (3, .int (iI ((a 23) (w - 1)))), (4, .int (iI r1)), (5, .int (iI (-4)))] [.int (iI (-4)), .int (iI (-4))] _ _ _ _
              refine pm_e_ict pm_a209_169 rfl (by decide +kernel) ?_
              show pm_E _ _ _ 188 [(0, .ref 18), (1, .int (iI i)), (2, .int (iI w)), (3, .int (iI ((a 23) (w - 1)))), (4, .int (iI r1)), (5, .int (iI (-4)))] [] _ _ _ _
              refine pm_e_sim pm_a209_188 rfl ?_
              refine pm_e_top (y := iI (-4)) (by decide +kernel) ?_
              show pm_E _ _ _ 190 [(0, .ref 18), (1, .int (iI i)), (2, .int (iI w)), (3, .int (iI ((a 23) (w - 1)))), (4, .int (iI r1)), (5, .int (iI (-4)))] [.int (iI (-4))] _ _ _ _
              refine pm_e_sim pm_a209_190 rfl ?_
              show pm_E _ _ _ 192 [(0, .ref 18), (1, .int (iI i)), (2, .int (iI w)), (3, .int (iI ((a 23) (w - 1)))), (4, .int (iI r1)), (5, .int (iI (-4))), (6, .int (iI (-4)))] [] _ _ _ _
              refine pm_e_sim pm_a209_192 rfl ?_
              show pm_E _ _ _ 194 [(0, .ref 18), (1, .int (iI i)), (2, .int (iI w)), (3, .int (iI ((a 23) (w - 1)))), (4, .int (iI r1)), (5, .int (iI (-4))), (6, .int (iI (-4)))] [.int (iI (-4))] _ _ _ _
              refine pm_e_sim pm_a209_194 rfl ?_
              refine pm_e_top (y := iI (-4)) (by decide +kernel) ?_
              show pm_E _ _ _ 196 [(0, .ref 18), (1, .int (iI i)), (2, .int (iI w)), (3, .int (iI ((a 23) (w - 1)))), (4, .int (iI r1)), (5, .int (iI (-4))), (6, .int (iI (-4)))] [.int (iI (-4)), .int (iI (-4))] _ _ _ _
              refine pm_e_icf pm_a209_196 rfl (by decide +kernel) ?_
              show pm_E _ _ _ 199 [(0, .ref 18), (1, .int (iI i)), (2, .int (iI w)), (3, .int (iI ((a 23) (w - 1)))), (4, .int (iI r1)), (5, .int (iI (-4))), (6, .int (iI (-4)))] [] _ _ _ _
              refine pm_e_sim pm_a209_199 rfl ?_
              show pm_E _ _ _ 200 [(0, .ref 18), (1, .int (iI i)), (2, .int (iI w)), (3, .int (iI ((a 23) (w - 1)))), (4, .int (iI r1)), (5, .int (iI (-4))), (6, .int (iI (-4)))] [.ref 18] _ _ _ _
              refine pm_i_get pm_a209_200 rfl (mh_get (j := 0) hA rfl) rfl ?_
              show pm_E _ _ _ 203 [(0, .ref 18), (1, .int (iI i)), (2, .int (iI w)), (3, .int (iI ((a 23) (w - 1)))), (4, .int (iI r1)), (5, .int (iI (-4))), (6, .int (iI (-4)))] [.ref 40] _ _ _ _
              refine pm_e_sim pm_a209_203 rfl ?_
              show pm_E _ _ _ 204 [(0, .ref 18), (1, .int (iI i)), (2, .int (iI w)), (3, .int (iI ((a 23) (w - 1)))), (4, .int (iI r1)), (5, .int (iI (-4))), (6, .int (iI (-4)))] [.int (iI ((a 23) (w - 1))), .ref 40] _ _ _ _
              refine pm_e_sim pm_a209_204 rfl ?_
              refine pm_e_top (y := iI 2) (by decide +kernel) ?_
              show pm_E _ _ _ 205 [(0, .ref 18), (1, .int (iI i)), (2, .int (iI w)), (3, .int (iI ((a 23) (w - 1)))), (4, .int (iI r1)), (5, .int (iI (-4))), (6, .int (iI (-4)))] [.int (iI 2), .int (iI ((a 23) (w - 1))), .ref 40] _ _ _ _
              refine pm_i_ast pm_a209_205 (mh_get (j := 22) hA rfl) (by omega) (by omega) ⟨by omega, by omega⟩ (ma_22 hA _) ?_
              show pm_E _ _ _ 206 [(0, .ref 18), (1, .int (iI i)), (2, .int (iI w)), (3, .int (iI ((a 23) (w - 1)))), (4, .int (iI r1)), (5, .int (iI (-4))), (6, .int (iI (-4)))] [] _ _ _ _
              refine pm_e_inc (y := iI (w + (-1))) pm_a209_206 rfl (iI_add _ _) (by decide +kernel) rfl ?_
              show pm_E _ _ _ 209 [(0, .ref 18), (1, .int (iI i)), (2, .int (iI (w + (-1)))), (3, .int (iI ((a 23) (w - 1)))), (4, .int (iI r1)), (5, .int (iI (-4))), (6, .int (iI (-4)))] [] _ _ _ _
              refine pm_e_goto pm_a209_209 rfl ?_
              show pm_E _ _ _ 244 [(0, .ref 18), (1, .int (iI i)), (2, .int (iI (w + (-1)))), (3, .int (iI ((a 23) (w - 1)))), (4, .int (iI r1)), (5, .int (iI (-4))), (6, .int (iI (-4)))] [] _ _ _ _
              refine pm_e_goto pm_a209_244 rfl ?_
              show pm_E _ _ _ 73 [(0, .ref 18), (1, .int (iI i)), (2, .int (iI (w + (-1)))), (3, .int (iI ((a 23) (w - 1)))), (4, .int (iI r1)), (5, .int (iI (-4))), (6, .int (iI (-4)))] [] _ _ _ _
              show pm_E _ _ _ 73 ([(0, .ref 18), (1, .int (iI i)), (2, .int (iI (w + (-1))))] ++ [(3, .int (iI ((a 23) (w - 1)))), (4, .int (iI r1)), (5, .int (iI (-4))), (6, .int (iI (-4)))]) [] _ _ _ _
              refine pm_e_more [(3, .int (iI ((a 23) (w - 1)))), (4, .int (iI r1)), (5, .int (iI (-4))), (6, .int (iI (-4)))] (show ([0, 1, 2, 3, 4, 5, 6] : List Nat).Nodup from by decide) ?_
              have h9 := cn0_dn (B := a 22) (g := (a 23) (w - 1)) (y := 2) (by omega) (n := (s 32).toNat)
              have hD2 := DF_fin (x := (a 23) (w - 1)) hD (by omega) rfl hrc (fun z9 => absurd z9 (by omega))
              refine ih (w + -1) _ (by omega) (fun j h1 h2 => by simp [updA, h1, fA j h1 h2]) (fun j z y => ?_) (fun j z y => hpt j z (by omega)) ?_ hD2 (fun j z => ?_) k kf ?_
              · show 0 ≤ updI (a 22) _ 2 j ∧ updI (a 22) _ 2 j ≤ 2; have := hmk j z y; unfold updI; split <;> omega
              · show w + -1 + cn0 (updI (a 22) ((a 23) (w - 1)) 2) _ ≤ _; omega
              · show updI (a 22) _ 2 j ≠ 0; have := hzp j z; unfold updI; split <;> omega
              · show 2 * cn0 (updI (a 22) ((a 23) (w - 1)) 2) _ + (w + -1) < _; omega
            · skip
              show pm_E _ _ _ 160 [(0, .ref 18), (1, .int (iI i)), (2, .int (iI w)), (3, .int (iI ((a 23) (w - 1)))), (4, .int (iI r1)), (5, .int (iI (-4)))] [] _ _ _ _
              refine pm_e_sim pm_a209_160 rfl ?_
              show pm_E _ _ _ 162 [(0, .ref 18), (1, .int (iI i)), (2, .int (iI w)), (3, .int (iI ((a 23) (w - 1)))), (4, .int (iI r1)), (5, .int (iI (-4)))] [.int (iI r1)] _ _ _ _
              refine pm_e_goto pm_a209_162 rfl ?_
              show pm_E _ _ _ 190 [(0, .ref 18), (1, .int (iI i)), (2, .int (iI w)), (3, .int (iI ((a 23) (w - 1)))), (4, .int (iI r1)), (5, .int (iI (-4)))] [.int (iI r1)] _ _ _ _
              refine pm_e_sim pm_a209_190 rfl ?_
              show pm_E _ _ _ 192 [(0, .ref 18), (1, .int (iI i)), (2, .int (iI w)), (3, .int (iI ((a 23) (w - 1)))), (4, .int (iI r1)), (5, .int (iI (-4))), (6, .int (iI r1))] [] _ _ _ _
              refine pm_e_sim pm_a209_192 rfl ?_
              show pm_E _ _ _ 194 [(0, .ref 18), (1, .int (iI i)), (2, .int (iI w)), (3, .int (iI ((a 23) (w - 1)))), (4, .int (iI r1)), (5, .int (iI (-4))), (6, .int (iI r1))] [.int (iI r1)] _ _ _ _
              refine pm_e_sim pm_a209_194 rfl ?_
              refine pm_e_top (y := iI (-4)) (by decide +kernel) ?_
              show pm_E _ _ _ 196 [(0, .ref 18), (1, .int (iI i)), (2, .int (iI w)), (3, .int (iI ((a 23) (w - 1)))), (4, .int (iI r1)), (5, .int (iI (-4))), (6, .int (iI r1))] [.int (iI (-4)), .int (iI r1)] _ _ _ _
              refine pm_c_ne (t := 212) pm_a209_196 rfl ⟨by omega, by omega⟩ ⟨by omega, by omega⟩ (fun h_18 => ?_) (fun h_18 => ?_)
              · skip
                show pm_E _ _ _ 212 [(0, .ref 18), (1, .int (iI i)), (2, .int (iI w)), (3, .int (iI ((a 23) (w - 1)))), (4, .int (iI r1)), (5, .int (iI (-4))), (6, .int (iI r1))] [] _ _ _ _
                refine pm_e_sim pm_a209_212 rfl ?_
                show pm_E _ _ _ 213 [(0, .ref 18), (1, .int (iI i)), (2, .int (iI w)), (3, .int (iI ((a 23) (w - 1)))), (4, .int (iI r1)), (5, .int (iI (-4))), (6, .int (iI r1))] [.ref 18] _ _ _ _
                refine pm_i_get pm_a209_213 rfl (mh_get (j := 0) hA rfl) rfl ?_
                show pm_E _ _ _ 216 [(0, .ref 18), (1, .int (iI i)), (2, .int (iI w)), (3, .int (iI ((a 23) (w - 1)))), (4, .int (iI r1)), (5, .int (iI (-4))), (6, .int (iI r1))] [.ref 40] _ _ _ _
                refine pm_e_sim pm_a209_216 rfl ?_
                show pm_E _ _ _ 218 [(0, .ref 18), (1, .int (iI i)), (2, .int (iI w)), (3, .int (iI ((a 23) (w - 1)))), (4, .int (iI r1)), (5, .int (iI (-4))), (6, .int (iI r1))] [.int (iI r1), .ref 40] _ _ _ _
                refine pm_i_ald pm_a209_218 (mh_get (j := 22) hA rfl) (by omega) (by omega) ⟨by omega, by omega⟩ ?_
                show pm_E _ _ _ 219 [(0, .ref 18), (1, .int (iI i)), (2, .int (iI w)), (3, .int (iI ((a 23) (w - 1)))), (4, .int (iI r1)), (5, .int (iI (-4))), (6, .int (iI r1))] [.int (iI ((a 22) (r1)))] _ _ _ _
                refine pm_e_sim pm_a209_219 rfl ?_
                refine pm_e_top (y := iI 1) (by decide +kernel) ?_
                show pm_E _ _ _ 220 [(0, .ref 18), (1, .int (iI i)), (2, .int (iI w)), (3, .int (iI ((a 23) (w - 1)))), (4, .int (iI r1)), (5, .int (iI (-4))), (6, .int (iI r1))] [.int (iI 1), .int (iI ((a 22) (r1)))] _ _ _ _
                refine pm_c_ne (t := 225) pm_a209_220 rfl ⟨by omega, by omega⟩ ⟨by omega, by omega⟩ (fun h_19 => ?_) (fun h_19 => ?_)
                · skip
                  show pm_E _ _ _ 225 [(0, .ref 18), (1, .int (iI i)), (2, .int (iI w)), (3, .int (iI ((a 23) (w - 1)))), (4, .int (iI r1)), (5, .int (iI (-4))), (6, .int (iI r1))] [] _ _ _ _
                  refine pm_e_sim pm_a209_225 rfl ?_
                  show pm_E _ _ _ 226 [(0, .ref 18), (1, .int (iI i)), (2, .int (iI w)), (3, .int (iI ((a 23) (w - 1)))), (4, .int (iI r1)), (5, .int (iI (-4))), (6, .int (iI r1))] [.ref 18] _ _ _ _
                  refine pm_i_get pm_a209_226 rfl (mh_get (j := 0) hA rfl) rfl ?_
                  show pm_E _ _ _ 229 [(0, .ref 18), (1, .int (iI i)), (2, .int (iI w)), (3, .int (iI ((a 23) (w - 1)))), (4, .int (iI r1)), (5, .int (iI (-4))), (6, .int (iI r1))] [.ref 40] _ _ _ _
                  refine pm_e_sim pm_a209_229 rfl ?_
                  show pm_E _ _ _ 231 [(0, .ref 18), (1, .int (iI i)), (2, .int (iI w)), (3, .int (iI ((a 23) (w - 1)))), (4, .int (iI r1)), (5, .int (iI (-4))), (6, .int (iI r1))] [.int (iI r1), .ref 40] _ _ _ _
                  refine pm_e_sim pm_a209_231 rfl ?_
                  refine pm_e_top (y := iI 1) (by decide +kernel) ?_
                  show pm_E _ _ _ 232 [(0, .ref 18), (1, .int (iI i)), (2, .int (iI w)), (3, .int (iI ((a 23) (w - 1)))), (4, .int (iI r1)), (5, .int (iI (-4))), (6, .int (iI r1))] [.int (iI 1), .int (iI r1), .ref 40] _ _ _ _
                  refine pm_i_ast pm_a209_232 (mh_get (j := 22) hA rfl) (by omega) (by omega) ⟨by omega, by omega⟩ (ma_22 hA _) ?_
                  show pm_E _ _ _ 233 [(0, .ref 18), (1, .int (iI i)), (2, .int (iI w)), (3, .int (iI ((a 23) (w - 1)))), (4, .int (iI r1)), (5, .int (iI (-4))), (6, .int (iI r1))] [] _ _ _ _
                  refine pm_e_sim pm_a209_233 rfl ?_
                  show pm_E _ _ _ 234 [(0, .ref 18), (1, .int (iI i)), (2, .int (iI w)), (3, .int (iI ((a 23) (w - 1)))), (4, .int (iI r1)), (5, .int (iI (-4))), (6, .int (iI r1))] [.ref 18] _ _ _ _
                  refine pm_i_get pm_a209_234 rfl (mh_get (j := 0) hA rfl) rfl ?_
                  show pm_E _ _ _ 237 [(0, .ref 18), (1, .int (iI i)), (2, .int (iI w)), (3, .int (iI ((a 23) (w - 1)))), (4, .int (iI r1)), (5, .int (iI (-4))), (6, .int (iI r1))] [.ref 41] _ _ _ _
                  refine pm_e_sim pm_a209_237 rfl ?_
                  show pm_E _ _ _ 238 [(0, .ref 18), (1, .int (iI i)), (2, .int (iI w)), (3, .int (iI ((a 23) (w - 1)))), (4, .int (iI r1)), (5, .int (iI (-4))), (6, .int (iI r1))] [.int (iI w), .ref 41] _ _ _ _
                  refine pm_e_sim pm_a209_238 rfl ?_
                  show pm_E _ _ _ 240 [(0, .ref 18), (1, .int (iI i)), (2, .int (iI w)), (3, .int (iI ((a 23) (w - 1)))), (4, .int (iI r1)), (5, .int (iI (-4))), (6, .int (iI r1))] [.int (iI r1), .int (iI w), .ref 41] _ _ _ _
                  refine pm_i_ast pm_a209_240 (mh_get (j := 23) hA rfl) (by omega) (by omega) ⟨by omega, by omega⟩ (ma_23 hA _) ?_
                  show pm_E _ _ _ 241 [(0, .ref 18), (1, .int (iI i)), (2, .int (iI w)), (3, .int (iI ((a 23) (w - 1)))), (4, .int (iI r1)), (5, .int (iI (-4))), (6, .int (iI r1))] [] _ _ _ _
                  refine pm_e_inc (y := iI (w + 1)) pm_a209_241 rfl (iI_add _ _) (by decide +kernel) rfl ?_
                  show pm_E _ _ _ 244 [(0, .ref 18), (1, .int (iI i)), (2, .int (iI (w + 1))), (3, .int (iI ((a 23) (w - 1)))), (4, .int (iI r1)), (5, .int (iI (-4))), (6, .int (iI r1))] [] _ _ _ _
                  refine pm_e_goto pm_a209_244 rfl ?_
                  show pm_E _ _ _ 73 [(0, .ref 18), (1, .int (iI i)), (2, .int (iI (w + 1))), (3, .int (iI ((a 23) (w - 1)))), (4, .int (iI r1)), (5, .int (iI (-4))), (6, .int (iI r1))] [] _ _ _ _
                  show pm_E _ _ _ 73 ([(0, .ref 18), (1, .int (iI i)), (2, .int (iI (w + 1)))] ++ [(3, .int (iI ((a 23) (w - 1)))), (4, .int (iI r1)), (5, .int (iI (-4))), (6, .int (iI r1))]) [] _ _ _ _
                  refine pm_e_more [(3, .int (iI ((a 23) (w - 1)))), (4, .int (iI r1)), (5, .int (iI (-4))), (6, .int (iI r1))] (show ([0, 1, 2, 3, 4, 5, 6] : List Nat).Nodup from by decide) ?_
                  have h9 := cn0_up (B := a 22) (g := r1) (y := 1) (by omega) (by omega) (n := (s 32).toNat) (by omega) (by omega)
                  have h8 := cn0_le (B := updI (a 22) r1 1) (n := (s 32).toNat)
                  have hD2 := DF_push (g := r1) hD h0 ⟨by omega, by omega⟩ (by omega) (fun _ => ⟨by omega, by first | exact Or.inl e1.symm | exact Or.inr e1.symm⟩)
                  refine ih (w + 1) _ (by omega) (fun j h1 h2 => by simp [updA, h1, h2, fA j h1 h2]) (fun j z y => ?_) (fun j z y => ?_) ?_ hD2 (fun j z => ?_) k kf ?_
                  · show 0 ≤ updI (a 22) _ 1 j ∧ updI (a 22) _ 1 j ≤ 2; have := hmk j z y; unfold updI; split <;> omega
                  · show 0 ≤ updI (a 23) w _ j ∧ updI (a 23) w _ j < _
                    by_cases hj : j = w
                    · rw [hj, updI_s]; omega
                    · rw [updI_n _ _ hj]; exact hpt j z (by omega)
                  · show w + 1 + cn0 (updI (a 22) r1 1) _ ≤ _; omega
                  · show updI (a 22) _ 1 j ≠ 0; have := hzp j z; unfold updI; split <;> omega
                  · show 2 * cn0 (updI (a 22) r1 1) _ + (w + 1) < _; omega
                · skip
                  show pm_E _ _ _ 223 [(0, .ref 18), (1, .int (iI i)), (2, .int (iI w)), (3, .int (iI ((a 23) (w - 1)))), (4, .int (iI r1)), (5, .int (iI (-4))), (6, .int (iI r1))] [] _ _ _ _
                  refine pm_e_sim pm_a209_223 rfl ?_
                  refine pm_e_top (y := iI 0) (by decide +kernel) ?_
                  show pm_E _ _ _ 224 [(0, .ref 18), (1, .int (iI i)), (2, .int (iI w)), (3, .int (iI ((a 23) (w - 1)))), (4, .int (iI r1)), (5, .int (iI (-4))), (6, .int (iI r1))] [.int (iI 0)] _ _ _ _
                  refine pm_e_ret pm_a209_224 rfl rfl rfl rfl rfl rfl rfl rfl ?_
                  have hcc : ∀ t, ¬ SOL (s 32) (-4) (a 18) (a 19) rt t := by
                    first
                    | exact DF_circ (g := r1) hD (by omega) ⟨by omega, by omega⟩ (by omega) ⟨by omega, Or.inl e1.symm⟩ hra.2
                    | exact DF_circ (g := r1) hD (by omega) ⟨by omega, by omega⟩ (by omega) ⟨by omega, Or.inr e1.symm⟩ hra.2
                  exact kf a fA (by rw [← e18, ← e19]; exact hcc)
              · skip
                show pm_E _ _ _ 199 [(0, .ref 18), (1, .int (iI i)), (2, .int (iI w)), (3, .int (iI ((a 23) (w - 1)))), (4, .int (iI r1)), (5, .int (iI (-4))), (6, .int (iI r1))] [] _ _ _ _
                refine pm_e_sim pm_a209_199 rfl ?_
                show pm_E _ _ _ 200 [(0, .ref 18), (1, .int (iI i)), (2, .int (iI w)), (3, .int (iI ((a 23) (w - 1)))), (4, .int (iI r1)), (5, .int (iI (-4))), (6, .int (iI r1))] [.ref 18] _ _ _ _
                refine pm_i_get pm_a209_200 rfl (mh_get (j := 0) hA rfl) rfl ?_
                show pm_E _ _ _ 203 [(0, .ref 18), (1, .int (iI i)), (2, .int (iI w)), (3, .int (iI ((a 23) (w - 1)))), (4, .int (iI r1)), (5, .int (iI (-4))), (6, .int (iI r1))] [.ref 40] _ _ _ _
                refine pm_e_sim pm_a209_203 rfl ?_
                show pm_E _ _ _ 204 [(0, .ref 18), (1, .int (iI i)), (2, .int (iI w)), (3, .int (iI ((a 23) (w - 1)))), (4, .int (iI r1)), (5, .int (iI (-4))), (6, .int (iI r1))] [.int (iI ((a 23) (w - 1))), .ref 40] _ _ _ _
                refine pm_e_sim pm_a209_204 rfl ?_
                refine pm_e_top (y := iI 2) (by decide +kernel) ?_
                show pm_E _ _ _ 205 [(0, .ref 18), (1, .int (iI i)), (2, .int (iI w)), (3, .int (iI ((a 23) (w - 1)))), (4, .int (iI r1)), (5, .int (iI (-4))), (6, .int (iI r1))] [.int (iI 2), .int (iI ((a 23) (w - 1))), .ref 40] _ _ _ _
                refine pm_i_ast pm_a209_205 (mh_get (j := 22) hA rfl) (by omega) (by omega) ⟨by omega, by omega⟩ (ma_22 hA _) ?_
                show pm_E _ _ _ 206 [(0, .ref 18), (1, .int (iI i)), (2, .int (iI w)), (3, .int (iI ((a 23) (w - 1)))), (4, .int (iI r1)), (5, .int (iI (-4))), (6, .int (iI r1))] [] _ _ _ _
                refine pm_e_inc (y := iI (w + (-1))) pm_a209_206 rfl (iI_add _ _) (by decide +kernel) rfl ?_
                show pm_E _ _ _ 209 [(0, .ref 18), (1, .int (iI i)), (2, .int (iI (w + (-1)))), (3, .int (iI ((a 23) (w - 1)))), (4, .int (iI r1)), (5, .int (iI (-4))), (6, .int (iI r1))] [] _ _ _ _
                refine pm_e_goto pm_a209_209 rfl ?_
                show pm_E _ _ _ 244 [(0, .ref 18), (1, .int (iI i)), (2, .int (iI (w + (-1)))), (3, .int (iI ((a 23) (w - 1)))), (4, .int (iI r1)), (5, .int (iI (-4))), (6, .int (iI r1))] [] _ _ _ _
                refine pm_e_goto pm_a209_244 rfl ?_
                show pm_E _ _ _ 73 [(0, .ref 18), (1, .int (iI i)), (2, .int (iI (w + (-1)))), (3, .int (iI ((a 23) (w - 1)))), (4, .int (iI r1)), (5, .int (iI (-4))), (6, .int (iI r1))] [] _ _ _ _
                show pm_E _ _ _ 73 ([(0, .ref 18), (1, .int (iI i)), (2, .int (iI (w + (-1))))] ++ [(3, .int (iI ((a 23) (w - 1)))), (4, .int (iI r1)), (5, .int (iI (-4))), (6, .int (iI r1))]) [] _ _ _ _
                refine pm_e_more [(3, .int (iI ((a 23) (w - 1)))), (4, .int (iI r1)), (5, .int (iI (-4))), (6, .int (iI r1))] (show ([0, 1, 2, 3, 4, 5, 6] : List Nat).Nodup from by decide) ?_
                have h9 := cn0_dn (B := a 22) (g := (a 23) (w - 1)) (y := 2) (by omega) (n := (s 32).toNat)
                have hD2 := DF_fin (x := (a 23) (w - 1)) hD (by omega) rfl hrc (fun z9 => absurd z9 (by omega))
                refine ih (w + -1) _ (by omega) (fun j h1 h2 => by simp [updA, h1, fA j h1 h2]) (fun j z y => ?_) (fun j z y => hpt j z (by omega)) ?_ hD2 (fun j z => ?_) k kf ?_
                · show 0 ≤ updI (a 22) _ 2 j ∧ updI (a 22) _ 2 j ≤ 2; have := hmk j z y; unfold updI; split <;> omega
                · show w + -1 + cn0 (updI (a 22) ((a 23) (w - 1)) 2) _ ≤ _; omega
                · show updI (a 22) _ 2 j ≠ 0; have := hzp j z; unfold updI; split <;> omega
                · show 2 * cn0 (updI (a 22) ((a 23) (w - 1)) 2) _ + (w + -1) < _; omega
      · skip
        show pm_E _ _ _ 97 [(0, .ref 18), (1, .int (iI i)), (2, .int (iI w)), (3, .int (iI ((a 23) (w - 1))))] [] _ _ _ _
        refine pm_e_sim pm_a209_97 rfl ?_
        refine pm_e_top (y := iI (-4)) (by decide +kernel) ?_
        show pm_E _ _ _ 99 [(0, .ref 18), (1, .int (iI i)), (2, .int (iI w)), (3, .int (iI ((a 23) (w - 1))))] [.int (iI (-4))] _ _ _ _
        refine pm_e_goto pm_a209_99 rfl ?_
        show pm_E _ _ _ 112 [(0, .ref 18), (1, .int (iI i)), (2, .int (iI w)), (3, .int (iI ((a 23) (w - 1))))] [.int (iI (-4))] _ _ _ _
        refine pm_e_sim pm_a209_112 rfl ?_
        show pm_E _ _ _ 114 [(0, .ref 18), (1, .int (iI i)), (2, .int (iI w)), (3, .int (iI ((a 23) (w - 1)))), (4, .int (iI (-4)))] [] _ _ _ _
        refine pm_e_sim pm_a209_114 rfl ?_
        show pm_E _ _ _ 115 [(0, .ref 18), (1, .int (iI i)), (2, .int (iI w)), (3, .int (iI ((a 23) (w - 1)))), (4, .int (iI (-4)))] [.ref 18] _ _ _ _
        refine pm_i_get pm_a209_115 rfl (mh_get (j := 0) hA rfl) rfl ?_
        show pm_E _ _ _ 118 [(0, .ref 18), (1, .int (iI i)), (2, .int (iI w)), (3, .int (iI ((a 23) (w - 1)))), (4, .int (iI (-4)))] [.ref 36] _ _ _ _
        refine pm_e_sim pm_a209_118 rfl ?_
        show pm_E _ _ _ 119 [(0, .ref 18), (1, .int (iI i)), (2, .int (iI w)), (3, .int (iI ((a 23) (w - 1)))), (4, .int (iI (-4)))] [.int (iI ((a 23) (w - 1))), .ref 36] _ _ _ _
        refine pm_i_ald pm_a209_119 (mh_get (j := 18) hA rfl) (by omega) (by omega) ⟨by omega, by omega⟩ ?_
        show pm_E _ _ _ 120 [(0, .ref 18), (1, .int (iI i)), (2, .int (iI w)), (3, .int (iI ((a 23) (w - 1)))), (4, .int (iI (-4)))] [.int (iI ((a 18) ((a 23) (w - 1))))] _ _ _ _
        refine pm_e_sim pm_a209_120 rfl ?_
        refine pm_e_top (y := iI (-4)) (by decide +kernel) ?_
        show pm_E _ _ _ 122 [(0, .ref 18), (1, .int (iI i)), (2, .int (iI w)), (3, .int (iI ((a 23) (w - 1)))), (4, .int (iI (-4)))] [.int (iI (-4)), .int (iI ((a 18) ((a 23) (w - 1))))] _ _ _ _
        refine pm_c_ne (t := 130) pm_a209_122 rfl ⟨by omega, by omega⟩ ⟨by omega, by omega⟩ (fun h_20 => ?_) (fun h_20 => ?_)
        · skip
          show pm_E _ _ _ 130 [(0, .ref 18), (1, .int (iI i)), (2, .int (iI w)), (3, .int (iI ((a 23) (w - 1)))), (4, .int (iI (-4)))] [] _ _ _ _
          refine pm_e_sim pm_a209_130 rfl ?_
          show pm_E _ _ _ 131 [(0, .ref 18), (1, .int (iI i)), (2, .int (iI w)), (3, .int (iI ((a 23) (w - 1)))), (4, .int (iI (-4)))] [.ref 18] _ _ _ _
          refine pm_e_sim pm_a209_131 rfl ?_
          show pm_E _ _ _ 132 [(0, .ref 18), (1, .int (iI i)), (2, .int (iI w)), (3, .int (iI ((a 23) (w - 1)))), (4, .int (iI (-4)))] [.ref 18, .ref 18] _ _ _ _
          refine pm_i_get pm_a209_132 rfl (mh_get (j := 0) hA rfl) rfl ?_
          show pm_E _ _ _ 135 [(0, .ref 18), (1, .int (iI i)), (2, .int (iI w)), (3, .int (iI ((a 23) (w - 1)))), (4, .int (iI (-4)))] [.ref 37, .ref 18] _ _ _ _
          refine pm_e_sim pm_a209_135 rfl ?_
          show pm_E _ _ _ 136 [(0, .ref 18), (1, .int (iI i)), (2, .int (iI w)), (3, .int (iI ((a 23) (w - 1)))), (4, .int (iI (-4)))] [.int (iI ((a 23) (w - 1))), .ref 37, .ref 18] _ _ _ _
          refine pm_i_ald pm_a209_136 (mh_get (j := 19) hA rfl) (by omega) (by omega) ⟨by omega, by omega⟩ ?_
          show pm_E _ _ _ 137 [(0, .ref 18), (1, .int (iI i)), (2, .int (iI w)), (3, .int (iI ((a 23) (w - 1)))), (4, .int (iI (-4)))] [.int (iI ((a 19) ((a 23) (w - 1)))), .ref 18] _ _ _ _
          refine pm_i_callv (k := 18) (T2 := pm_mm207) pm_a209_137 rfl rfl rfl (mh_get (j := 0) hA rfl) ⟨Nat.le_of_ble_eq_true rfl, Nat.le_of_ble_eq_true rfl, rfl, by decide +kernel⟩ ?_
          show pm_E none _ _ 0 [(0, .ref 18), (1, .int (iI ((a 19) ((a 23) (w - 1)))))] [] _ _ _ _
          refine M_rootT hA hFa hGa.2.1 (by omega) (by omega) (by omega) (fun r3 e3 p3 q3 z3 => ?_)
          have m3 := hmk r3 p3 q3
          show pm_E _ _ _ 140 [(0, .ref 18), (1, .int (iI i)), (2, .int (iI w)), (3, .int (iI ((a 23) (w - 1)))), (4, .int (iI (-4)))] [.int (iI r3)] _ _ _ _
          refine pm_e_sim pm_a209_140 rfl ?_
          show pm_E _ _ _ 142 [(0, .ref 18), (1, .int (iI i)), (2, .int (iI w)), (3, .int (iI ((a 23) (w - 1)))), (4, .int (iI (-4))), (5, .int (iI r3))] [] _ _ _ _
          refine pm_e_sim pm_a209_142 rfl ?_
          show pm_E _ _ _ 144 [(0, .ref 18), (1, .int (iI i)), (2, .int (iI w)), (3, .int (iI ((a 23) (w - 1)))), (4, .int (iI (-4))), (5, .int (iI r3))] [.int (iI (-4))] _ _ _ _
          refine pm_e_sim pm_a209_144 rfl ?_
          refine pm_e_top (y := iI (-4)) (by decide +kernel) ?_
          show pm_E _ _ _ 146 [(0, .ref 18), (1, .int (iI i)), (2, .int (iI w)), (3, .int (iI ((a 23) (w - 1)))), (4, .int (iI (-4))), (5, .int (iI r3))] [.int (iI (-4)), .int (iI (-4))] _ _ _ _
          refine pm_e_ict pm_a209_146 rfl (by decide +kernel) ?_
          show pm_E _ _ _ 165 [(0, .ref 18), (1, .int (iI i)), (2, .int (iI w)), (3, .int (iI ((a 23) (w - 1)))), (4, .int (iI (-4))), (5, .int (iI r3))] [] _ _ _ _
          refine pm_e_sim pm_a209_165 rfl ?_
          show pm_E _ _ _ 167 [(0, .ref 18), (1, .int (iI i)), (2, .int (iI w)), (3, .int (iI ((a 23) (w - 1)))), (4, .int (iI (-4))), (5, .int (iI r3))] [.int (iI r3)] _ _ _ _
          refine pm_e_sim pm_a209_167 rfl ?_
          refine pm_e_top (y := iI (-4)) (by decide +kernel) ?_
          show pm_E _ _ _ 169 [(0, .ref 18), (1, .int (iI i)), (2, .int (iI w)), (3, .int (iI ((a 23) (w - 1)))), (4, .int (iI (-4))), (5, .int (iI r3))] [.int (iI (-4)), .int (iI r3)] _ _ _ _
          refine pm_c_eq (t := 188) pm_a209_169 rfl ⟨by omega, by omega⟩ ⟨by omega, by omega⟩ (fun h_21 => ?_) (fun h_21 => ?_)
          · skip
            show pm_E _ _ _ 188 [(0, .ref 18), (1, .int (iI i)), (2, .int (iI w)), (3, .int (iI ((a 23) (w - 1)))), (4, .int (iI (-4))), (5, .int (iI r3))] [] _ _ _ _
            refine pm_e_sim pm_a209_188 rfl ?_
            refine pm_e_top (y := iI (-4)) (by decide +kernel) ?_
            show pm_E _ _ _ 190 [(0, .ref 18), (1, .int (iI i)), (2, .int (iI w)), (3, .int (iI ((a 23) (w - 1)))), (4, .int (iI (-4))), (5, .int (iI r3))] [.int (iI (-4))] _ _ _ _
            refine pm_e_sim pm_a209_190 rfl ?_
            show pm_E _ _ _ 192 [(0, .ref 18), (1, .int (iI i)), (2, .int (iI w)), (3, .int (iI ((a 23) (w - 1)))), (4, .int (iI (-4))), (5, .int (iI r3)), (6, .int (iI (-4)))] [] _ _ _ _
            refine pm_e_sim pm_a209_192 rfl ?_
            show pm_E _ _ _ 194 [(0, .ref 18), (1, .int (iI i)), (2, .int (iI w)), (3, .int (iI ((a 23) (w - 1)))), (4, .int (iI (-4))), (5, .int (iI r3)), (6, .int (iI (-4)))] [.int (iI (-4))] _ _ _ _
            refine pm_e_sim pm_a209_194 rfl ?_
            refine pm_e_top (y := iI (-4)) (by decide +kernel) ?_
            show pm_E _ _ _ 196 [(0, .ref 18), (1, .int (iI i)), (2, .int (iI w)), (3, .int (iI ((a 23) (w - 1)))), (4, .int (iI (-4))), (5, .int (iI r3)), (6, .int (iI (-4)))] [.int (iI (-4)), .int (iI (-4))] _ _ _ _
            refine pm_e_icf pm_a209_196 rfl (by decide +kernel) ?_
            show pm_E _ _ _ 199 [(0, .ref 18), (1, .int (iI i)), (2, .int (iI w)), (3, .int (iI ((a 23) (w - 1)))), (4, .int (iI (-4))), (5, .int (iI r3)), (6, .int (iI (-4)))] [] _ _ _ _
            refine pm_e_sim pm_a209_199 rfl ?_
            show pm_E _ _ _ 200 [(0, .ref 18), (1, .int (iI i)), (2, .int (iI w)), (3, .int (iI ((a 23) (w - 1)))), (4, .int (iI (-4))), (5, .int (iI r3)), (6, .int (iI (-4)))] [.ref 18] _ _ _ _
            refine pm_i_get pm_a209_200 rfl (mh_get (j := 0) hA rfl) rfl ?_
            show pm_E _ _ _ 203 [(0, .ref 18), (1, .int (iI i)), (2, .int (iI w)), (3, .int (iI ((a 23) (w - 1)))), (4, .int (iI (-4))), (5, .int (iI r3)), (6, .int (iI (-4)))] [.ref 40] _ _ _ _
            refine pm_e_sim pm_a209_203 rfl ?_
            show pm_E _ _ _ 204 [(0, .ref 18), (1, .int (iI i)), (2, .int (iI w)), (3, .int (iI ((a 23) (w - 1)))), (4, .int (iI (-4))), (5, .int (iI r3)), (6, .int (iI (-4)))] [.int (iI ((a 23) (w - 1))), .ref 40] _ _ _ _
            refine pm_e_sim pm_a209_204 rfl ?_
            refine pm_e_top (y := iI 2) (by decide +kernel) ?_
            show pm_E _ _ _ 205 [(0, .ref 18), (1, .int (iI i)), (2, .int (iI w)), (3, .int (iI ((a 23) (w - 1)))), (4, .int (iI (-4))), (5, .int (iI r3)), (6, .int (iI (-4)))] [.int (iI 2), .int (iI ((a 23) (w - 1))), .ref 40] _ _ _ _
            refine pm_i_ast pm_a209_205 (mh_get (j := 22) hA rfl) (by omega) (by omega) ⟨by omega, by omega⟩ (ma_22 hA _) ?_
            show pm_E _ _ _ 206 [(0, .ref 18), (1, .int (iI i)), (2, .int (iI w)), (3, .int (iI ((a 23) (w - 1)))), (4, .int (iI (-4))), (5, .int (iI r3)), (6, .int (iI (-4)))] [] _ _ _ _
            refine pm_e_inc (y := iI (w + (-1))) pm_a209_206 rfl (iI_add _ _) (by decide +kernel) rfl ?_
            show pm_E _ _ _ 209 [(0, .ref 18), (1, .int (iI i)), (2, .int (iI (w + (-1)))), (3, .int (iI ((a 23) (w - 1)))), (4, .int (iI (-4))), (5, .int (iI r3)), (6, .int (iI (-4)))] [] _ _ _ _
            refine pm_e_goto pm_a209_209 rfl ?_
            show pm_E _ _ _ 244 [(0, .ref 18), (1, .int (iI i)), (2, .int (iI (w + (-1)))), (3, .int (iI ((a 23) (w - 1)))), (4, .int (iI (-4))), (5, .int (iI r3)), (6, .int (iI (-4)))] [] _ _ _ _
            refine pm_e_goto pm_a209_244 rfl ?_
            show pm_E _ _ _ 73 [(0, .ref 18), (1, .int (iI i)), (2, .int (iI (w + (-1)))), (3, .int (iI ((a 23) (w - 1)))), (4, .int (iI (-4))), (5, .int (iI r3)), (6, .int (iI (-4)))] [] _ _ _ _
            show pm_E _ _ _ 73 ([(0, .ref 18), (1, .int (iI i)), (2, .int (iI (w + (-1))))] ++ [(3, .int (iI ((a 23) (w - 1)))), (4, .int (iI (-4))), (5, .int (iI r3)), (6, .int (iI (-4)))]) [] _ _ _ _
            refine pm_e_more [(3, .int (iI ((a 23) (w - 1)))), (4, .int (iI (-4))), (5, .int (iI r3)), (6, .int (iI (-4)))] (show ([0, 1, 2, 3, 4, 5, 6] : List Nat).Nodup from by decide) ?_
            have h9 := cn0_dn (B := a 22) (g := (a 23) (w - 1)) (y := 2) (by omega) (n := (s 32).toNat)
            have hD2 := DF_fin (x := (a 23) (w - 1)) hD (by omega) rfl hrc (fun z9 => absurd z9 (by omega))
            refine ih (w + -1) _ (by omega) (fun j h1 h2 => by simp [updA, h1, fA j h1 h2]) (fun j z y => ?_) (fun j z y => hpt j z (by omega)) ?_ hD2 (fun j z => ?_) k kf ?_
            · show 0 ≤ updI (a 22) _ 2 j ∧ updI (a 22) _ 2 j ≤ 2; have := hmk j z y; unfold updI; split <;> omega
            · show w + -1 + cn0 (updI (a 22) ((a 23) (w - 1)) 2) _ ≤ _; omega
            · show updI (a 22) _ 2 j ≠ 0; have := hzp j z; unfold updI; split <;> omega
            · show 2 * cn0 (updI (a 22) ((a 23) (w - 1)) 2) _ + (w + -1) < _; omega
          · skip
            show pm_E _ _ _ 172 [(0, .ref 18), (1, .int (iI i)), (2, .int (iI w)), (3, .int (iI ((a 23) (w - 1)))), (4, .int (iI (-4))), (5, .int (iI r3))] [] _ _ _ _
            refine pm_e_sim pm_a209_172 rfl ?_
            show pm_E _ _ _ 173 [(0, .ref 18), (1, .int (iI i)), (2, .int (iI w)), (3, .int (iI ((a 23) (w - 1)))), (4, .int (iI (-4))), (5, .int (iI r3))] [.ref 18] _ _ _ _
            refine pm_i_get pm_a209_173 rfl (mh_get (j := 0) hA rfl) rfl ?_
            show pm_E _ _ _ 176 [(0, .ref 18), (1, .int (iI i)), (2, .int (iI w)), (3, .int (iI ((a 23) (w - 1)))), (4, .int (iI (-4))), (5, .int (iI r3))] [.ref 40] _ _ _ _
            refine pm_e_sim pm_a209_176 rfl ?_
            show pm_E _ _ _ 178 [(0, .ref 18), (1, .int (iI i)), (2, .int (iI w)), (3, .int (iI ((a 23) (w - 1)))), (4, .int (iI (-4))), (5, .int (iI r3))] [.int (iI r3), .ref 40] _ _ _ _
            refine pm_i_ald pm_a209_178 (mh_get (j := 22) hA rfl) (by omega) (by omega) ⟨by omega, by omega⟩ ?_
            show pm_E _ _ _ 179 [(0, .ref 18), (1, .int (iI i)), (2, .int (iI w)), (3, .int (iI ((a 23) (w - 1)))), (4, .int (iI (-4))), (5, .int (iI r3))] [.int (iI ((a 22) (r3)))] _ _ _ _
            refine pm_e_sim pm_a209_179 rfl ?_
            refine pm_e_top (y := iI 2) (by decide +kernel) ?_
            show pm_E _ _ _ 180 [(0, .ref 18), (1, .int (iI i)), (2, .int (iI w)), (3, .int (iI ((a 23) (w - 1)))), (4, .int (iI (-4))), (5, .int (iI r3))] [.int (iI 2), .int (iI ((a 22) (r3)))] _ _ _ _
            refine pm_c_ge (t := 188) pm_a209_180 rfl ⟨by omega, by omega⟩ ⟨by omega, by omega⟩ (fun h_22 => ?_) (fun h_22 => ?_)
            · skip
              show pm_E _ _ _ 188 [(0, .ref 18), (1, .int (iI i)), (2, .int (iI w)), (3, .int (iI ((a 23) (w - 1)))), (4, .int (iI (-4))), (5, .int (iI r3))] [] _ _ _ _
              refine pm_e_sim pm_a209_188 rfl ?_
              refine pm_e_top (y := iI (-4)) (by decide +kernel) ?_
              show pm_E _ _ _ 190 [(0, .ref 18), (1, .int (iI i)), (2, .int (iI w)), (3, .int (iI ((a 23) (w - 1)))), (4, .int (iI (-4))), (5, .int (iI r3))] [.int (iI (-4))] _ _ _ _
              refine pm_e_sim pm_a209_190 rfl ?_
              show pm_E _ _ _ 192 [(0, .ref 18), (1, .int (iI i)), (2, .int (iI w)), (3, .int (iI ((a 23) (w - 1)))), (4, .int (iI (-4))), (5, .int (iI r3)), (6, .int (iI (-4)))] [] _ _ _ _
              refine pm_e_sim pm_a209_192 rfl ?_
              show pm_E _ _ _ 194 [(0, .ref 18), (1, .int (iI i)), (2, .int (iI w)), (3, .int (iI ((a 23) (w - 1)))), (4, .int (iI (-4))), (5, .int (iI r3)), (6, .int (iI (-4)))] [.int (iI (-4))] _ _ _ _
              refine pm_e_sim pm_a209_194 rfl ?_
              refine pm_e_top (y := iI (-4)) (by decide +kernel) ?_
              show pm_E _ _ _ 196 [(0, .ref 18), (1, .int (iI i)), (2, .int (iI w)), (3, .int (iI ((a 23) (w - 1)))), (4, .int (iI (-4))), (5, .int (iI r3)), (6, .int (iI (-4)))] [.int (iI (-4)), .int (iI (-4))] _ _ _ _
              refine pm_e_icf pm_a209_196 rfl (by decide +kernel) ?_
              show pm_E _ _ _ 199 [(0, .ref 18), (1, .int (iI i)), (2, .int (iI w)), (3, .int (iI ((a 23) (w - 1)))), (4, .int (iI (-4))), (5, .int (iI r3)), (6, .int (iI (-4)))] [] _ _ _ _
              refine pm_e_sim pm_a209_199 rfl ?_
              show pm_E _ _ _ 200 [(0, .ref 18), (1, .int (iI i)), (2, .int (iI w)), (3, .int (iI ((a 23) (w - 1)))), (4, .int (iI (-4))), (5, .int (iI r3)), (6, .int (iI (-4)))] [.ref 18] _ _ _ _
              refine pm_i_get pm_a209_200 rfl (mh_get (j := 0) hA rfl) rfl ?_
              show pm_E _ _ _ 203 [(0, .ref 18), (1, .int (iI i)), (2, .int (iI w)), (3, .int (iI ((a 23) (w - 1)))), (4, .int (iI (-4))), (5, .int (iI r3)), (6, .int (iI (-4)))] [.ref 40] _ _ _ _
              refine pm_e_sim pm_a209_203 rfl ?_
              show pm_E _ _ _ 204 [(0, .ref 18), (1, .int (iI i)), (2, .int (iI w)), (3, .int (iI ((a 23) (w - 1)))), (4, .int (iI (-4))), (5, .int (iI r3)), (6, .int (iI (-4)))] [.int (iI ((a 23) (w - 1))), .ref 40] _ _ _ _
              refine pm_e_sim pm_a209_204 rfl ?_
              refine pm_e_top (y := iI 2) (by decide +kernel) ?_
              show pm_E _ _ _ 205 [(0, .ref 18), (1, .int (iI i)), (2, .int (iI w)), (3, .int (iI ((a 23) (w - 1)))), (4, .int (iI (-4))), (5, .int (iI r3)), (6, .int (iI (-4)))] [.int (iI 2), .int (iI ((a 23) (w - 1))), .ref 40] _ _ _ _
              refine pm_i_ast pm_a209_205 (mh_get (j := 22) hA rfl) (by omega) (by omega) ⟨by omega, by omega⟩ (ma_22 hA _) ?_
              show pm_E _ _ _ 206 [(0, .ref 18), (1, .int (iI i)), (2, .int (iI w)), (3, .int (iI ((a 23) (w - 1)))), (4, .int (iI (-4))), (5, .int (iI r3)), (6, .int (iI (-4)))] [] _ _ _ _
              refine pm_e_inc (y := iI (w + (-1))) pm_a209_206 rfl (iI_add _ _) (by decide +kernel) rfl ?_
              show pm_E _ _ _ 209 [(0, .ref 18), (1, .int (iI i)), (2, .int (iI (w + (-1)))), (3, .int (iI ((a 23) (w - 1)))), (4, .int (iI (-4))), (5, .int (iI r3)), (6, .int (iI (-4)))] [] _ _ _ _
              refine pm_e_goto pm_a209_209 rfl ?_
              show pm_E _ _ _ 244 [(0, .ref 18), (1, .int (iI i)), (2, .int (iI (w + (-1)))), (3, .int (iI ((a 23) (w - 1)))), (4, .int (iI (-4))), (5, .int (iI r3)), (6, .int (iI (-4)))] [] _ _ _ _
              refine pm_e_goto pm_a209_244 rfl ?_
              show pm_E _ _ _ 73 [(0, .ref 18), (1, .int (iI i)), (2, .int (iI (w + (-1)))), (3, .int (iI ((a 23) (w - 1)))), (4, .int (iI (-4))), (5, .int (iI r3)), (6, .int (iI (-4)))] [] _ _ _ _
              show pm_E _ _ _ 73 ([(0, .ref 18), (1, .int (iI i)), (2, .int (iI (w + (-1))))] ++ [(3, .int (iI ((a 23) (w - 1)))), (4, .int (iI (-4))), (5, .int (iI r3)), (6, .int (iI (-4)))]) [] _ _ _ _
              refine pm_e_more [(3, .int (iI ((a 23) (w - 1)))), (4, .int (iI (-4))), (5, .int (iI r3)), (6, .int (iI (-4)))] (show ([0, 1, 2, 3, 4, 5, 6] : List Nat).Nodup from by decide) ?_
              have h9 := cn0_dn (B := a 22) (g := (a 23) (w - 1)) (y := 2) (by omega) (n := (s 32).toNat)
              have hD2 := DF_fin (x := (a 23) (w - 1)) hD (by omega) rfl hrc (fun z9 => absurd z9 (by omega))
              refine ih (w + -1) _ (by omega) (fun j h1 h2 => by simp [updA, h1, fA j h1 h2]) (fun j z y => ?_) (fun j z y => hpt j z (by omega)) ?_ hD2 (fun j z => ?_) k kf ?_
              · show 0 ≤ updI (a 22) _ 2 j ∧ updI (a 22) _ 2 j ≤ 2; have := hmk j z y; unfold updI; split <;> omega
              · show w + -1 + cn0 (updI (a 22) ((a 23) (w - 1)) 2) _ ≤ _; omega
              · show updI (a 22) _ 2 j ≠ 0; have := hzp j z; unfold updI; split <;> omega
              · show 2 * cn0 (updI (a 22) ((a 23) (w - 1)) 2) _ + (w + -1) < _; omega
            · skip
              show pm_E _ _ _ 183 [(0, .ref 18), (1, .int (iI i)), (2, .int (iI w)), (3, .int (iI ((a 23) (w - 1)))), (4, .int (iI (-4))), (5, .int (iI r3))] [] _ _ _ _
              refine pm_e_sim pm_a209_183 rfl ?_
              show pm_E _ _ _ 185 [(0, .ref 18), (1, .int (iI i)), (2, .int (iI w)), (3, .int (iI ((a 23) (w - 1)))), (4, .int (iI (-4))), (5, .int (iI r3))] [.int (iI r3)] _ _ _ _
              refine pm_e_goto pm_a209_185 rfl ?_
              show pm_E _ _ _ 190 [(0, .ref 18), (1, .int (iI i)), (2, .int (iI w)), (3, .int (iI ((a 23) (w - 1)))), (4, .int (iI (-4))), (5, .int (iI r3))] [.int (iI r3)] _ _ _ _
              refine pm_e_sim pm_a209_190 rfl ?_
              show pm_E _ _ _ 192 [(0, .ref 18), (1, .int (iI i)), (2, .int (iI w)), (3, .int (iI ((a 23) (w - 1)))), (4, .int (iI (-4))), (5, .int (iI r3)), (6, .int (iI r3))] [] _ _ _ _
              refine pm_e_sim pm_a209_192 rfl ?_
              show pm_E _ _ _ 194 [(0, .ref 18), (1, .int (iI i)), (2, .int (iI w)), (3, .int (iI ((a 23) (w - 1)))), (4, .int (iI (-4))), (5, .int (iI r3)), (6, .int (iI r3))] [.int (iI r3)] _ _ _ _
              refine pm_e_sim pm_a209_194 rfl ?_
              refine pm_e_top (y := iI (-4)) (by decide +kernel) ?_
              show pm_E _ _ _ 196 [(0, .ref 18), (1, .int (iI i)), (2, .int (iI w)), (3, .int (iI ((a 23) (w - 1)))), (4, .int (iI (-4))), (5, .int (iI r3)), (6, .int (iI r3))] [.int (iI (-4)), .int (iI r3)] _ _ _ _
              refine pm_c_ne (t := 212) pm_a209_196 rfl ⟨by omega, by omega⟩ ⟨by omega, by omega⟩ (fun h_23 => ?_) (fun h_23 => ?_)
              · skip
                show pm_E _ _ _ 212 [(0, .ref 18), (1, .int (iI i)), (2, .int (iI w)), (3, .int (iI ((a 23) (w - 1)))), (4, .int (iI (-4))), (5, .int (iI r3)), (6, .int (iI r3))] [] _ _ _ _
                refine pm_e_sim pm_a209_212 rfl ?_
                show pm_E _ _ _ 213 [(0, .ref 18), (1, .int (iI i)), (2, .int (iI w)), (3, .int (iI ((a 23) (w - 1)))), (4, .int (iI (-4))), (5, .int (iI r3)), (6, .int (iI r3))] [.ref 18] _ _ _ _
                refine pm_i_get pm_a209_213 rfl (mh_get (j := 0) hA rfl) rfl ?_
                show pm_E _ _ _ 216 [(0, .ref 18), (1, .int (iI i)), (2, .int (iI w)), (3, .int (iI ((a 23) (w - 1)))), (4, .int (iI (-4))), (5, .int (iI r3)), (6, .int (iI r3))] [.ref 40] _ _ _ _
                refine pm_e_sim pm_a209_216 rfl ?_
                show pm_E _ _ _ 218 [(0, .ref 18), (1, .int (iI i)), (2, .int (iI w)), (3, .int (iI ((a 23) (w - 1)))), (4, .int (iI (-4))), (5, .int (iI r3)), (6, .int (iI r3))] [.int (iI r3), .ref 40] _ _ _ _
                refine pm_i_ald pm_a209_218 (mh_get (j := 22) hA rfl) (by omega) (by omega) ⟨by omega, by omega⟩ ?_
                show pm_E _ _ _ 219 [(0, .ref 18), (1, .int (iI i)), (2, .int (iI w)), (3, .int (iI ((a 23) (w - 1)))), (4, .int (iI (-4))), (5, .int (iI r3)), (6, .int (iI r3))] [.int (iI ((a 22) (r3)))] _ _ _ _
                refine pm_e_sim pm_a209_219 rfl ?_
                refine pm_e_top (y := iI 1) (by decide +kernel) ?_
                show pm_E _ _ _ 220 [(0, .ref 18), (1, .int (iI i)), (2, .int (iI w)), (3, .int (iI ((a 23) (w - 1)))), (4, .int (iI (-4))), (5, .int (iI r3)), (6, .int (iI r3))] [.int (iI 1), .int (iI ((a 22) (r3)))] _ _ _ _
                refine pm_c_ne (t := 225) pm_a209_220 rfl ⟨by omega, by omega⟩ ⟨by omega, by omega⟩ (fun h_24 => ?_) (fun h_24 => ?_)
                · skip
                  show pm_E _ _ _ 225 [(0, .ref 18), (1, .int (iI i)), (2, .int (iI w)), (3, .int (iI ((a 23) (w - 1)))), (4, .int (iI (-4))), (5, .int (iI r3)), (6, .int (iI r3))] [] _ _ _ _
                  refine pm_e_sim pm_a209_225 rfl ?_
                  show pm_E _ _ _ 226 [(0, .ref 18), (1, .int (iI i)), (2, .int (iI w)), (3, .int (iI ((a 23) (w - 1)))), (4, .int (iI (-4))), (5, .int (iI r3)), (6, .int (iI r3))] [.ref 18] _ _ _ _
                  refine pm_i_get pm_a209_226 rfl (mh_get (j := 0) hA rfl) rfl ?_
                  show pm_E _ _ _ 229 [(0, .ref 18), (1, .int (iI i)), (2, .int (iI w)), (3, .int (iI ((a 23) (w - 1)))), (4, .int (iI (-4))), (5, .int (iI r3)), (6, .int (iI r3))] [.ref 40] _ _ _ _
                  refine pm_e_sim pm_a209_229 rfl ?_
                  show pm_E _ _ _ 231 [(0, .ref 18), (1, .int (iI i)), (2, .int (iI w)), (3, .int (iI ((a 23) (w - 1)))), (4, .int (iI (-4))), (5, .int (iI r3)), (6, .int (iI r3))] [.int (iI r3), .ref 40] _ _ _ _
                  refine pm_e_sim pm_a209_231 rfl ?_
                  refine pm_e_top (y := iI 1) (by decide +kernel) ?_
                  show pm_E _ _ _ 232 [(0, .ref 18), (1, .int (iI i)), (2, .int (iI w)), (3, .int (iI ((a 23) (w - 1)))), (4, .int (iI (-4))), (5, .int (iI r3)), (6, .int (iI r3))] [.int (iI 1), .int (iI r3), .ref 40] _ _ _ _
                  refine pm_i_ast pm_a209_232 (mh_get (j := 22) hA rfl) (by omega) (by omega) ⟨by omega, by omega⟩ (ma_22 hA _) ?_
                  show pm_E _ _ _ 233 [(0, .ref 18), (1, .int (iI i)), (2, .int (iI w)), (3, .int (iI ((a 23) (w - 1)))), (4, .int (iI (-4))), (5, .int (iI r3)), (6, .int (iI r3))] [] _ _ _ _
                  refine pm_e_sim pm_a209_233 rfl ?_
                  show pm_E _ _ _ 234 [(0, .ref 18), (1, .int (iI i)), (2, .int (iI w)), (3, .int (iI ((a 23) (w - 1)))), (4, .int (iI (-4))), (5, .int (iI r3)), (6, .int (iI r3))] [.ref 18] _ _ _ _
                  refine pm_i_get pm_a209_234 rfl (mh_get (j := 0) hA rfl) rfl ?_
                  show pm_E _ _ _ 237 [(0, .ref 18), (1, .int (iI i)), (2, .int (iI w)), (3, .int (iI ((a 23) (w - 1)))), (4, .int (iI (-4))), (5, .int (iI r3)), (6, .int (iI r3))] [.ref 41] _ _ _ _
                  refine pm_e_sim pm_a209_237 rfl ?_
                  show pm_E _ _ _ 238 [(0, .ref 18), (1, .int (iI i)), (2, .int (iI w)), (3, .int (iI ((a 23) (w - 1)))), (4, .int (iI (-4))), (5, .int (iI r3)), (6, .int (iI r3))] [.int (iI w), .ref 41] _ _ _ _
                  refine pm_e_sim pm_a209_238 rfl ?_
                  show pm_E _ _ _ 240 [(0, .ref 18), (1, .int (iI i)), (2, .int (iI w)), (3, .int (iI ((a 23) (w - 1)))), (4, .int (iI (-4))), (5, .int (iI r3)), (6, .int (iI r3))] [.int (iI r3), .int (iI w), .ref 41] _ _ _ _
                  refine pm_i_ast pm_a209_240 (mh_get (j := 23) hA rfl) (by omega) (by omega) ⟨by omega, by omega⟩ (ma_23 hA _) ?_
                  show pm_E _ _ _ 241 [(0, .ref 18), (1, .int (iI i)), (2, .int (iI w)), (3, .int (iI ((a 23) (w - 1)))), (4, .int (iI (-4))), (5, .int (iI r3)), (6, .int (iI r3))] [] _ _ _ _
                  refine pm_e_inc (y := iI (w + 1)) pm_a209_241 rfl (iI_add _ _) (by decide +kernel) rfl ?_
                  show pm_E _ _ _ 244 [(0, .ref 18), (1, .int (iI i)), (2, .int (iI (w + 1))), (3, .int (iI ((a 23) (w - 1)))), (4, .int (iI (-4))), (5, .int (iI r3)), (6, .int (iI r3))] [] _ _ _ _
                  refine pm_e_goto pm_a209_244 rfl ?_
                  show pm_E _ _ _ 73 [(0, .ref 18), (1, .int (iI i)), (2, .int (iI (w + 1))), (3, .int (iI ((a 23) (w - 1)))), (4, .int (iI (-4))), (5, .int (iI r3)), (6, .int (iI r3))] [] _ _ _ _
                  show pm_E _ _ _ 73 ([(0, .ref 18), (1, .int (iI i)), (2, .int (iI (w + 1)))] ++ [(3, .int (iI ((a 23) (w - 1)))), (4, .int (iI (-4))), (5, .int (iI r3)), (6, .int (iI r3))]) [] _ _ _ _
                  refine pm_e_more [(3, .int (iI ((a 23) (w - 1)))), (4, .int (iI (-4))), (5, .int (iI r3)), (6, .int (iI r3))] (show ([0, 1, 2, 3, 4, 5, 6] : List Nat).Nodup from by decide) ?_
                  have h9 := cn0_up (B := a 22) (g := r3) (y := 1) (by omega) (by omega) (n := (s 32).toNat) (by omega) (by omega)
                  have h8 := cn0_le (B := updI (a 22) r3 1) (n := (s 32).toNat)
                  have hD2 := DF_push (g := r3) hD h0 ⟨by omega, by omega⟩ (by omega) (fun _ => ⟨by omega, by first | exact Or.inl e3.symm | exact Or.inr e3.symm⟩)
                  refine ih (w + 1) _ (by omega) (fun j h1 h2 => by simp [updA, h1, h2, fA j h1 h2]) (fun j z y => ?_) (fun j z y => ?_) ?_ hD2 (fun j z => ?_) k kf ?_
                  · show 0 ≤ updI (a 22) _ 1 j ∧ updI (a 22) _ 1 j ≤ 2; have := hmk j z y; unfold updI; split <;> omega
                  · show 0 ≤ updI (a 23) w _ j ∧ updI (a 23) w _ j < _
                    by_cases hj : j = w
                    · rw [hj, updI_s]; omega
                    · rw [updI_n _ _ hj]; exact hpt j z (by omega)
                  · show w + 1 + cn0 (updI (a 22) r3 1) _ ≤ _; omega
                  · show updI (a 22) _ 1 j ≠ 0; have := hzp j z; unfold updI; split <;> omega
                  · show 2 * cn0 (updI (a 22) r3 1) _ + (w + 1) < _; omega
                · skip
                  show pm_E _ _ _ 223 [(0, .ref 18), (1, .int (iI i)), (2, .int (iI w)), (3, .int (iI ((a 23) (w - 1)))), (4, .int (iI (-4))), (5, .int (iI r3)), (6, .int (iI r3))] [] _ _ _ _
                  refine pm_e_sim pm_a209_223 rfl ?_
                  refine pm_e_top (y := iI 0) (by decide +kernel) ?_
                  show pm_E _ _ _ 224 [(0, .ref 18), (1, .int (iI i)), (2, .int (iI w)), (3, .int (iI ((a 23) (w - 1)))), (4, .int (iI (-4))), (5, .int (iI r3)), (6, .int (iI r3))] [.int (iI 0)] _ _ _ _
                  refine pm_e_ret pm_a209_224 rfl rfl rfl rfl rfl rfl rfl rfl ?_
                  have hcc : ∀ t, ¬ SOL (s 32) (-4) (a 18) (a 19) rt t := by
                    first
                    | exact DF_circ (g := r3) hD (by omega) ⟨by omega, by omega⟩ (by omega) ⟨by omega, Or.inl e3.symm⟩ hra.2
                    | exact DF_circ (g := r3) hD (by omega) ⟨by omega, by omega⟩ (by omega) ⟨by omega, Or.inr e3.symm⟩ hra.2
                  exact kf a fA (by rw [← e18, ← e19]; exact hcc)
              · skip
                show pm_E _ _ _ 199 [(0, .ref 18), (1, .int (iI i)), (2, .int (iI w)), (3, .int (iI ((a 23) (w - 1)))), (4, .int (iI (-4))), (5, .int (iI r3)), (6, .int (iI r3))] [] _ _ _ _
                refine pm_e_sim pm_a209_199 rfl ?_
                show pm_E _ _ _ 200 [(0, .ref 18), (1, .int (iI i)), (2, .int (iI w)), (3, .int (iI ((a 23) (w - 1)))), (4, .int (iI (-4))), (5, .int (iI r3)), (6, .int (iI r3))] [.ref 18] _ _ _ _
                refine pm_i_get pm_a209_200 rfl (mh_get (j := 0) hA rfl) rfl ?_
                show pm_E _ _ _ 203 [(0, .ref 18), (1, .int (iI i)), (2, .int (iI w)), (3, .int (iI ((a 23) (w - 1)))), (4, .int (iI (-4))), (5, .int (iI r3)), (6, .int (iI r3))] [.ref 40] _ _ _ _
                refine pm_e_sim pm_a209_203 rfl ?_
                show pm_E _ _ _ 204 [(0, .ref 18), (1, .int (iI i)), (2, .int (iI w)), (3, .int (iI ((a 23) (w - 1)))), (4, .int (iI (-4))), (5, .int (iI r3)), (6, .int (iI r3))] [.int (iI ((a 23) (w - 1))), .ref 40] _ _ _ _
                refine pm_e_sim pm_a209_204 rfl ?_
                refine pm_e_top (y := iI 2) (by decide +kernel) ?_
                show pm_E _ _ _ 205 [(0, .ref 18), (1, .int (iI i)), (2, .int (iI w)), (3, .int (iI ((a 23) (w - 1)))), (4, .int (iI (-4))), (5, .int (iI r3)), (6, .int (iI r3))] [.int (iI 2), .int (iI ((a 23) (w - 1))), .ref 40] _ _ _ _
                refine pm_i_ast pm_a209_205 (mh_get (j := 22) hA rfl) (by omega) (by omega) ⟨by omega, by omega⟩ (ma_22 hA _) ?_
                show pm_E _ _ _ 206 [(0, .ref 18), (1, .int (iI i)), (2, .int (iI w)), (3, .int (iI ((a 23) (w - 1)))), (4, .int (iI (-4))), (5, .int (iI r3)), (6, .int (iI r3))] [] _ _ _ _
                refine pm_e_inc (y := iI (w + (-1))) pm_a209_206 rfl (iI_add _ _) (by decide +kernel) rfl ?_
                show pm_E _ _ _ 209 [(0, .ref 18), (1, .int (iI i)), (2, .int (iI (w + (-1)))), (3, .int (iI ((a 23) (w - 1)))), (4, .int (iI (-4))), (5, .int (iI r3)), (6, .int (iI r3))] [] _ _ _ _
                refine pm_e_goto pm_a209_209 rfl ?_
                show pm_E _ _ _ 244 [(0, .ref 18), (1, .int (iI i)), (2, .int (iI (w + (-1)))), (3, .int (iI ((a 23) (w - 1)))), (4, .int (iI (-4))), (5, .int (iI r3)), (6, .int (iI r3))] [] _ _ _ _
                refine pm_e_goto pm_a209_244 rfl ?_
                show pm_E _ _ _ 73 [(0, .ref 18), (1, .int (iI i)), (2, .int (iI (w + (-1)))), (3, .int (iI ((a 23) (w - 1)))), (4, .int (iI (-4))), (5, .int (iI r3)), (6, .int (iI r3))] [] _ _ _ _
                show pm_E _ _ _ 73 ([(0, .ref 18), (1, .int (iI i)), (2, .int (iI (w + (-1))))] ++ [(3, .int (iI ((a 23) (w - 1)))), (4, .int (iI (-4))), (5, .int (iI r3)), (6, .int (iI r3))]) [] _ _ _ _
                refine pm_e_more [(3, .int (iI ((a 23) (w - 1)))), (4, .int (iI (-4))), (5, .int (iI r3)), (6, .int (iI r3))] (show ([0, 1, 2, 3, 4, 5, 6] : List Nat).Nodup from by decide) ?_
                have h9 := cn0_dn (B := a 22) (g := (a 23) (w - 1)) (y := 2) (by omega) (n := (s 32).toNat)
                have hD2 := DF_fin (x := (a 23) (w - 1)) hD (by omega) rfl hrc (fun z9 => absurd z9 (by omega))
                refine ih (w + -1) _ (by omega) (fun j h1 h2 => by simp [updA, h1, fA j h1 h2]) (fun j z y => ?_) (fun j z y => hpt j z (by omega)) ?_ hD2 (fun j z => ?_) k kf ?_
                · show 0 ≤ updI (a 22) _ 2 j ∧ updI (a 22) _ 2 j ≤ 2; have := hmk j z y; unfold updI; split <;> omega
                · show w + -1 + cn0 (updI (a 22) ((a 23) (w - 1)) 2) _ ≤ _; omega
                · show updI (a 22) _ 2 j ≠ 0; have := hzp j z; unfold updI; split <;> omega
                · show 2 * cn0 (updI (a 22) ((a 23) (w - 1)) 2) _ + (w + -1) < _; omega
        · skip
          show pm_E _ _ _ 125 [(0, .ref 18), (1, .int (iI i)), (2, .int (iI w)), (3, .int (iI ((a 23) (w - 1)))), (4, .int (iI (-4)))] [] _ _ _ _
          refine pm_e_sim pm_a209_125 rfl ?_
          refine pm_e_top (y := iI (-4)) (by decide +kernel) ?_
          show pm_E _ _ _ 127 [(0, .ref 18), (1, .int (iI i)), (2, .int (iI w)), (3, .int (iI ((a 23) (w - 1)))), (4, .int (iI (-4)))] [.int (iI (-4))] _ _ _ _
          refine pm_e_goto pm_a209_127 rfl ?_
          show pm_E _ _ _ 140 [(0, .ref 18), (1, .int (iI i)), (2, .int (iI w)), (3, .int (iI ((a 23) (w - 1)))), (4, .int (iI (-4)))] [.int (iI (-4))] _ _ _ _
          refine pm_e_sim pm_a209_140 rfl ?_
          show pm_E _ _ _ 142 [(0, .ref 18), (1, .int (iI i)), (2, .int (iI w)), (3, .int (iI ((a 23) (w - 1)))), (4, .int (iI (-4))), (5, .int (iI (-4)))] [] _ _ _ _
          refine pm_e_sim pm_a209_142 rfl ?_
          show pm_E _ _ _ 144 [(0, .ref 18), (1, .int (iI i)), (2, .int (iI w)), (3, .int (iI ((a 23) (w - 1)))), (4, .int (iI (-4))), (5, .int (iI (-4)))] [.int (iI (-4))] _ _ _ _
          refine pm_e_sim pm_a209_144 rfl ?_
          refine pm_e_top (y := iI (-4)) (by decide +kernel) ?_
          show pm_E _ _ _ 146 [(0, .ref 18), (1, .int (iI i)), (2, .int (iI w)), (3, .int (iI ((a 23) (w - 1)))), (4, .int (iI (-4))), (5, .int (iI (-4)))] [.int (iI (-4)), .int (iI (-4))] _ _ _ _
          refine pm_e_ict pm_a209_146 rfl (by decide +kernel) ?_
          show pm_E _ _ _ 165 [(0, .ref 18), (1, .int (iI i)), (2, .int (iI w)), (3, .int (iI ((a 23) (w - 1)))), (4, .int (iI (-4))), (5, .int (iI (-4)))] [] _ _ _ _
          refine pm_e_sim pm_a209_165 rfl ?_
          show pm_E _ _ _ 167 [(0, .ref 18), (1, .int (iI i)), (2, .int (iI w)), (3, .int (iI ((a 23) (w - 1)))), (4, .int (iI (-4))), (5, .int (iI (-4)))] [.int (iI (-4))] _ _ _ _
          refine pm_e_sim pm_a209_167 rfl ?_
          refine pm_e_top (y := iI (-4)) (by decide +kernel) ?_
          show pm_E _ _ _ 169 [(0, .ref 18), (1, .int (iI i)), (2, .int (iI w)), (3, .int (iI ((a 23) (w - 1)))), (4, .int (iI (-4))), (5, .int (iI (-4)))] [.int (iI (-4)), .int (iI (-4))] _ _ _ _
          refine pm_e_ict pm_a209_169 rfl (by decide +kernel) ?_
          show pm_E _ _ _ 188 [(0, .ref 18), (1, .int (iI i)), (2, .int (iI w)), (3, .int (iI ((a 23) (w - 1)))), (4, .int (iI (-4))), (5, .int (iI (-4)))] [] _ _ _ _
          refine pm_e_sim pm_a209_188 rfl ?_
          refine pm_e_top (y := iI (-4)) (by decide +kernel) ?_
          show pm_E _ _ _ 190 [(0, .ref 18), (1, .int (iI i)), (2, .int (iI w)), (3, .int (iI ((a 23) (w - 1)))), (4, .int (iI (-4))), (5, .int (iI (-4)))] [.int (iI (-4))] _ _ _ _
          refine pm_e_sim pm_a209_190 rfl ?_
          show pm_E _ _ _ 192 [(0, .ref 18), (1, .int (iI i)), (2, .int (iI w)), (3, .int (iI ((a 23) (w - 1)))), (4, .int (iI (-4))), (5, .int (iI (-4))), (6, .int (iI (-4)))] [] _ _ _ _
          refine pm_e_sim pm_a209_192 rfl ?_
          show pm_E _ _ _ 194 [(0, .ref 18), (1, .int (iI i)), (2, .int (iI w)), (3, .int (iI ((a 23) (w - 1)))), (4, .int (iI (-4))), (5, .int (iI (-4))), (6, .int (iI (-4)))] [.int (iI (-4))] _ _ _ _
          refine pm_e_sim pm_a209_194 rfl ?_
          refine pm_e_top (y := iI (-4)) (by decide +kernel) ?_
          show pm_E _ _ _ 196 [(0, .ref 18), (1, .int (iI i)), (2, .int (iI w)), (3, .int (iI ((a 23) (w - 1)))), (4, .int (iI (-4))), (5, .int (iI (-4))), (6, .int (iI (-4)))] [.int (iI (-4)), .int (iI (-4))] _ _ _ _
          refine pm_e_icf pm_a209_196 rfl (by decide +kernel) ?_
          show pm_E _ _ _ 199 [(0, .ref 18), (1, .int (iI i)), (2, .int (iI w)), (3, .int (iI ((a 23) (w - 1)))), (4, .int (iI (-4))), (5, .int (iI (-4))), (6, .int (iI (-4)))] [] _ _ _ _
          refine pm_e_sim pm_a209_199 rfl ?_
          show pm_E _ _ _ 200 [(0, .ref 18), (1, .int (iI i)), (2, .int (iI w)), (3, .int (iI ((a 23) (w - 1)))), (4, .int (iI (-4))), (5, .int (iI (-4))), (6, .int (iI (-4)))] [.ref 18] _ _ _ _
          refine pm_i_get pm_a209_200 rfl (mh_get (j := 0) hA rfl) rfl ?_
          show pm_E _ _ _ 203 [(0, .ref 18), (1, .int (iI i)), (2, .int (iI w)), (3, .int (iI ((a 23) (w - 1)))), (4, .int (iI (-4))), (5, .int (iI (-4))), (6, .int (iI (-4)))] [.ref 40] _ _ _ _
          refine pm_e_sim pm_a209_203 rfl ?_
          show pm_E _ _ _ 204 [(0, .ref 18), (1, .int (iI i)), (2, .int (iI w)), (3, .int (iI ((a 23) (w - 1)))), (4, .int (iI (-4))), (5, .int (iI (-4))), (6, .int (iI (-4)))] [.int (iI ((a 23) (w - 1))), .ref 40] _ _ _ _
          refine pm_e_sim pm_a209_204 rfl ?_
          refine pm_e_top (y := iI 2) (by decide +kernel) ?_
          show pm_E _ _ _ 205 [(0, .ref 18), (1, .int (iI i)), (2, .int (iI w)), (3, .int (iI ((a 23) (w - 1)))), (4, .int (iI (-4))), (5, .int (iI (-4))), (6, .int (iI (-4)))] [.int (iI 2), .int (iI ((a 23) (w - 1))), .ref 40] _ _ _ _
          refine pm_i_ast pm_a209_205 (mh_get (j := 22) hA rfl) (by omega) (by omega) ⟨by omega, by omega⟩ (ma_22 hA _) ?_
          show pm_E _ _ _ 206 [(0, .ref 18), (1, .int (iI i)), (2, .int (iI w)), (3, .int (iI ((a 23) (w - 1)))), (4, .int (iI (-4))), (5, .int (iI (-4))), (6, .int (iI (-4)))] [] _ _ _ _
          refine pm_e_inc (y := iI (w + (-1))) pm_a209_206 rfl (iI_add _ _) (by decide +kernel) rfl ?_
          show pm_E _ _ _ 209 [(0, .ref 18), (1, .int (iI i)), (2, .int (iI (w + (-1)))), (3, .int (iI ((a 23) (w - 1)))), (4, .int (iI (-4))), (5, .int (iI (-4))), (6, .int (iI (-4)))] [] _ _ _ _
          refine pm_e_goto pm_a209_209 rfl ?_
          show pm_E _ _ _ 244 [(0, .ref 18), (1, .int (iI i)), (2, .int (iI (w + (-1)))), (3, .int (iI ((a 23) (w - 1)))), (4, .int (iI (-4))), (5, .int (iI (-4))), (6, .int (iI (-4)))] [] _ _ _ _
          refine pm_e_goto pm_a209_244 rfl ?_
          show pm_E _ _ _ 73 [(0, .ref 18), (1, .int (iI i)), (2, .int (iI (w + (-1)))), (3, .int (iI ((a 23) (w - 1)))), (4, .int (iI (-4))), (5, .int (iI (-4))), (6, .int (iI (-4)))] [] _ _ _ _
          show pm_E _ _ _ 73 ([(0, .ref 18), (1, .int (iI i)), (2, .int (iI (w + (-1))))] ++ [(3, .int (iI ((a 23) (w - 1)))), (4, .int (iI (-4))), (5, .int (iI (-4))), (6, .int (iI (-4)))]) [] _ _ _ _
          refine pm_e_more [(3, .int (iI ((a 23) (w - 1)))), (4, .int (iI (-4))), (5, .int (iI (-4))), (6, .int (iI (-4)))] (show ([0, 1, 2, 3, 4, 5, 6] : List Nat).Nodup from by decide) ?_
          have h9 := cn0_dn (B := a 22) (g := (a 23) (w - 1)) (y := 2) (by omega) (n := (s 32).toNat)
          have hD2 := DF_fin (x := (a 23) (w - 1)) hD (by omega) rfl hrc (fun z9 => absurd z9 (by omega))
          refine ih (w + -1) _ (by omega) (fun j h1 h2 => by simp [updA, h1, fA j h1 h2]) (fun j z y => ?_) (fun j z y => hpt j z (by omega)) ?_ hD2 (fun j z => ?_) k kf ?_
          · show 0 ≤ updI (a 22) _ 2 j ∧ updI (a 22) _ 2 j ≤ 2; have := hmk j z y; unfold updI; split <;> omega
          · show w + -1 + cn0 (updI (a 22) ((a 23) (w - 1)) 2) _ ≤ _; omega
          · show updI (a 22) _ 2 j ≠ 0; have := hzp j z; unfold updI; split <;> omega
          · show 2 * cn0 (updI (a 22) ((a 23) (w - 1)) 2) _ + (w + -1) < _; omega
set_option maxHeartbeats 4000000 in
set_option maxRecDepth 100000 in
theorem M_isFin_3T {d : Nat} {A B : List va_E} {vl : Int64} {nm : Nat → Int64} {Q : Option Value → List va_E → Nat → Nat → Prop} {s : Nat → Int} {a0 : Nat → Int → Int} {rt : Int → Int} (hA : A.length = 18) (hG : GS (a0 17) (a0 18) (a0 19) (s 32) rt) (hK : s 32 ≤ 6000) : ∀ (f : Nat) (i : Int) (a : Nat → Int → Int), 0 ≤ i → i ≤ s 32 → (∀ j, j ≠ 22 → j ≠ 23 → a j = a0 j) → (∀ j, 0 ≤ j → j < s 32 → 0 ≤ a 22 j ∧ a 22 j ≤ 2) → DF (s 32) (a 18) (a 19) rt (a 22) (a 23) 0 → (∀ j, (∃ q, 0 ≤ q ∧ q < i ∧ j = rt q) → a 22 j ≠ 0) → (∀ (a : Nat → Int → Int), (∀ j, j ≠ 22 → j ≠ 23 → a j = a0 j) → (∃ h, RK (s 32) (-4) (a0 18) (a0 19) rt h) → Q (some (.int (iI 1))) (mh A s vl a nm B) 0 0) → (∀ (a : Nat → Int → Int), (∀ j, j ≠ 22 → j ≠ 23 → a j = a0 j) → (∀ t, ¬ SOL (s 32) (-4) (a0 18) (a0 19) rt t) → Q (some (.int (iI 0))) (mh A s vl a nm B) 0 0) → s 32 - i < (f : Int) → pm_E none (d + 1) pm_mm209 25 [(0, .ref 18), (1, .int (iI i))] [] (mh A s vl a nm B) 0 0 Q := by
  intro f
  induction f with
  | zero =>
    intro i a h0 h1 fA hmk hD hzp k kf hf
    exfalso; omega
  | succ f ih =>
    intro i a h0 h1 fA hmk hD hzp k kf hf
    have hF := hG.1
    have hK0 := hF.1
    have e17 : a 17 = a0 17 := fA 17 (by omega) (by omega)
    have e18 : a 18 = a0 18 := fA 18 (by omega) (by omega)
    have e19 : a 19 = a0 19 := fA 19 (by omega) (by omega)
    have hGa : GS (a 17) (a 18) (a 19) (s 32) rt := by rw [e17, e18, e19]; exact hG
    have hFa := hGa.1
    have hra := GI_rg hGa.2.2
    have hrc : ∀ k, 0 ≤ k → k < s 32 → a 18 k ≠ -4 → (0 ≤ rt (a 18 k) ∧ rt (a 18 k) < s 32) ∧ (0 ≤ rt (a 19 k) ∧ rt (a 19 k) < s 32) := fun k z y c => ⟨hra.1 _ (hra.2 k z y c).1.1 (hra.2 k z y c).1.2, hra.1 _ (hra.2 k z y c).2.1 (hra.2 k z y c).2.2⟩
    refine pm_e_sim pm_a209_25 rfl ?_
    show pm_E _ _ _ 26 [(0, .ref 18), (1, .int (iI i))] [.int (iI i)] _ _ _ _
    refine pm_e_sim pm_a209_26 rfl ?_
    show pm_E _ _ _ 27 [(0, .ref 18), (1, .int (iI i))] [.ref 18, .int (iI i)] _ _ _ _
    refine pm_i_get pm_a209_27 rfl (mh_get (j := 0) hA rfl) rfl ?_
    show pm_E _ _ _ 30 [(0, .ref 18), (1, .int (iI i))] [.int (iI (s 32)), .int (iI i)] _ _ _ _
    refine pm_c_ge (t := 253) pm_a209_30 rfl ⟨by omega, by omega⟩ ⟨by omega, by omega⟩ (fun h_1 => ?_) (fun h_1 => ?_)
    · skip
      show pm_E _ _ _ 253 [(0, .ref 18), (1, .int (iI i))] [] _ _ _ _
      refine pm_e_sim pm_a209_253 rfl ?_
      refine pm_e_top (y := iI 1) (by decide +kernel) ?_
      show pm_E _ _ _ 254 [(0, .ref 18), (1, .int (iI i))] [.int (iI 1)] _ _ _ _
      refine pm_e_ret pm_a209_254 rfl rfl rfl rfl rfl rfl rfl rfl ?_
      have hrk := DF_end hD (fun k z y => hzp (rt k) ⟨k, z, by omega, rfl⟩) hmk
      rw [e18, e19] at hrk
      exact k a fA hrk
    · skip
      show pm_E _ _ _ 33 [(0, .ref 18), (1, .int (iI i))] [] _ _ _ _
      refine pm_e_sim pm_a209_33 rfl ?_
      refine pm_e_top (y := iI 0) (by decide +kernel) ?_
      show pm_E _ _ _ 34 [(0, .ref 18), (1, .int (iI i))] [.int (iI 0)] _ _ _ _
      refine pm_e_sim pm_a209_34 rfl ?_
      show pm_E _ _ _ 35 [(0, .ref 18), (1, .int (iI i)), (2, .int (iI 0))] [] _ _ _ _
      refine pm_e_sim pm_a209_35 rfl ?_
      show pm_E _ _ _ 36 [(0, .ref 18), (1, .int (iI i)), (2, .int (iI 0))] [.ref 18] _ _ _ _
      refine pm_i_get pm_a209_36 rfl (mh_get (j := 0) hA rfl) rfl ?_
      show pm_E _ _ _ 39 [(0, .ref 18), (1, .int (iI i)), (2, .int (iI 0))] [.ref 40] _ _ _ _
      refine pm_e_sim pm_a209_39 rfl ?_
      show pm_E _ _ _ 40 [(0, .ref 18), (1, .int (iI i)), (2, .int (iI 0))] [.ref 18, .ref 40] _ _ _ _
      refine pm_e_sim pm_a209_40 rfl ?_
      show pm_E _ _ _ 41 [(0, .ref 18), (1, .int (iI i)), (2, .int (iI 0))] [.int (iI i), .ref 18, .ref 40] _ _ _ _
      refine pm_i_callv (k := 18) (T2 := pm_mm207) pm_a209_41 rfl rfl rfl (mh_get (j := 0) hA rfl) ⟨Nat.le_of_ble_eq_true rfl, Nat.le_of_ble_eq_true rfl, rfl, by decide +kernel⟩ ?_
      show pm_E none _ _ 0 [(0, .ref 18), (1, .int (iI i))] [] _ _ _ _
      refine M_rootT hA hFa hGa.2.1 (by omega) (by omega) (by omega) (fun r4 e4 p4 q4 z4 => ?_)
      have m4 := hmk r4 p4 q4
      show pm_E _ _ _ 44 [(0, .ref 18), (1, .int (iI i)), (2, .int (iI 0))] [.int (iI r4), .ref 40] _ _ _ _
      refine pm_i_ald pm_a209_44 (mh_get (j := 22) hA rfl) (by omega) (by omega) ⟨by omega, by omega⟩ ?_
      show pm_E _ _ _ 45 [(0, .ref 18), (1, .int (iI i)), (2, .int (iI 0))] [.int (iI ((a 22) (r4)))] _ _ _ _
      refine pm_i_ne (t := 73) pm_a209_45 rfl ⟨by omega, by omega⟩ (fun h_2 => ?_) (fun h_2 => ?_)
      · skip
        show pm_E _ _ _ 73 [(0, .ref 18), (1, .int (iI i)), (2, .int (iI 0))] [] _ _ _ _
        have hc9 := cn0_le (B := a 22) (n := (s 32).toNat)
        refine M_isFin_2T (Zp := fun j => ∃ q, 0 ≤ q ∧ q ≤ i ∧ j = rt q) hA hG hK (2 * s 32 + 2).toNat 0 a (by omega) fA hmk (fun j z y => by omega) (by omega) hD (fun j z => ?_) ?_ kf (by omega)
        · obtain ⟨q, q0, q1, q2⟩ := z
          by_cases c : q = i
          · rw [q2, c, ← e4]; omega
          · rw [q2]; exact hzp (rt q) ⟨q, q0, by omega, rfl⟩
        · intro a5 fA5 hmk5 hD5 hzp5 w'
          refine pm_e_inc (y := iI (i + 1)) pm_a209_247 rfl (iI_add _ _) (by decide +kernel) rfl ?_
          show pm_E _ _ _ 250 [(0, .ref 18), (1, .int (iI (i + 1))), (2, .int (iI (w')))] [] _ _ _ _
          refine pm_e_goto pm_a209_250 rfl ?_
          show pm_E _ _ _ 25 [(0, .ref 18), (1, .int (iI (i + 1))), (2, .int (iI (w')))] [] _ _ _ _
          show pm_E _ _ _ 25 ([(0, .ref 18), (1, .int (iI (i + 1)))] ++ [(2, .int (iI (w')))]) [] _ _ _ _
          refine pm_e_more [(2, .int (iI (w')))] (show ([0, 1, 2] : List Nat).Nodup from by decide) ?_
          exact ih (i + 1) a5 (by omega) (by omega) fA5 hmk5 hD5 (fun j ⟨q, q0, q1, q2⟩ => hzp5 j ⟨q, q0, by omega, q2⟩) k kf (by omega)
      · skip
        show pm_E _ _ _ 48 [(0, .ref 18), (1, .int (iI i)), (2, .int (iI 0))] [] _ _ _ _
        refine pm_e_sim pm_a209_48 rfl ?_
        show pm_E _ _ _ 49 [(0, .ref 18), (1, .int (iI i)), (2, .int (iI 0))] [.ref 18] _ _ _ _
        refine pm_i_get pm_a209_49 rfl (mh_get (j := 0) hA rfl) rfl ?_
        show pm_E _ _ _ 52 [(0, .ref 18), (1, .int (iI i)), (2, .int (iI 0))] [.ref 41] _ _ _ _
        refine pm_e_sim pm_a209_52 rfl ?_
        refine pm_e_top (y := iI 0) (by decide +kernel) ?_
        show pm_E _ _ _ 53 [(0, .ref 18), (1, .int (iI i)), (2, .int (iI 0))] [.int (iI 0), .ref 41] _ _ _ _
        refine pm_e_sim pm_a209_53 rfl ?_
        show pm_E _ _ _ 54 [(0, .ref 18), (1, .int (iI i)), (2, .int (iI 0))] [.ref 18, .int (iI 0), .ref 41] _ _ _ _
        refine pm_e_sim pm_a209_54 rfl ?_
        show pm_E _ _ _ 55 [(0, .ref 18), (1, .int (iI i)), (2, .int (iI 0))] [.int (iI i), .ref 18, .int (iI 0), .ref 41] _ _ _ _
        refine pm_i_callv (k := 18) (T2 := pm_mm207) pm_a209_55 rfl rfl rfl (mh_get (j := 0) hA rfl) ⟨Nat.le_of_ble_eq_true rfl, Nat.le_of_ble_eq_true rfl, rfl, by decide +kernel⟩ ?_
        show pm_E none _ _ 0 [(0, .ref 18), (1, .int (iI i))] [] _ _ _ _
        refine M_rootT hA hFa hGa.2.1 (by omega) (by omega) (by omega) (fun r5 e5 p5 q5 z5 => ?_)
        have m5 := hmk r5 p5 q5
        show pm_E _ _ _ 58 [(0, .ref 18), (1, .int (iI i)), (2, .int (iI 0))] [.int (iI r5), .int (iI 0), .ref 41] _ _ _ _
        refine pm_i_ast pm_a209_58 (mh_get (j := 23) hA rfl) (by omega) (by omega) ⟨by omega, by omega⟩ (ma_23 hA _) ?_
        show pm_E _ _ _ 59 [(0, .ref 18), (1, .int (iI i)), (2, .int (iI 0))] [] _ _ _ _
        refine pm_e_sim pm_a209_59 rfl ?_
        show pm_E _ _ _ 60 [(0, .ref 18), (1, .int (iI i)), (2, .int (iI 0))] [.ref 18] _ _ _ _
        refine pm_i_get pm_a209_60 rfl (mh_get (j := 0) hA rfl) rfl ?_
        show pm_E _ _ _ 63 [(0, .ref 18), (1, .int (iI i)), (2, .int (iI 0))] [.ref 40] _ _ _ _
        refine pm_e_sim pm_a209_63 rfl ?_
        show pm_E _ _ _ 64 [(0, .ref 18), (1, .int (iI i)), (2, .int (iI 0))] [.ref 18, .ref 40] _ _ _ _
        refine pm_i_get pm_a209_64 rfl (mh_get (j := 0) hA rfl) rfl ?_
        show pm_E _ _ _ 67 [(0, .ref 18), (1, .int (iI i)), (2, .int (iI 0))] [.ref 41, .ref 40] _ _ _ _
        refine pm_e_sim pm_a209_67 rfl ?_
        refine pm_e_top (y := iI 0) (by decide +kernel) ?_
        show pm_E _ _ _ 68 [(0, .ref 18), (1, .int (iI i)), (2, .int (iI 0))] [.int (iI 0), .ref 41, .ref 40] _ _ _ _
        refine pm_i_ald pm_a209_68 (mh_get (j := 23) hA rfl) (by omega) (by omega) ⟨by omega, by omega⟩ ?_
        show pm_E _ _ _ 69 [(0, .ref 18), (1, .int (iI i)), (2, .int (iI 0))] [.int (iI ((updI (a 23) (0) (r5)) (0))), .ref 40] _ _ _ _
        refine pm_e_sim pm_a209_69 rfl ?_
        refine pm_e_top (y := iI 1) (by decide +kernel) ?_
        show pm_E _ _ _ 70 [(0, .ref 18), (1, .int (iI i)), (2, .int (iI 0))] [.int (iI 1), .int (iI ((updI (a 23) (0) (r5)) (0))), .ref 40] _ _ _ _
        have hz8 : (updI (a 23) 0 r5) 0 = r5 := updI_s _ _ _
        refine pm_i_ast pm_a209_70 (mh_get (j := 22) hA rfl) (by omega) (by omega) ⟨by omega, by omega⟩ (ma_22 hA _) ?_
        show pm_E _ _ _ 71 [(0, .ref 18), (1, .int (iI i)), (2, .int (iI 0))] [] _ _ _ _
        refine pm_e_sim pm_a209_71 rfl ?_
        refine pm_e_top (y := iI 1) (by decide +kernel) ?_
        show pm_E _ _ _ 72 [(0, .ref 18), (1, .int (iI i)), (2, .int (iI 0))] [.int (iI 1)] _ _ _ _
        refine pm_e_sim pm_a209_72 rfl ?_
        show pm_E _ _ _ 73 [(0, .ref 18), (1, .int (iI i)), (2, .int (iI 1))] [] _ _ _ _
        have hz9 : (updI (a 23) 0 r5) 0 = r5 := updI_s _ _ _
        have m9 := hmk r5 (by omega) (by omega)
        have m8 : a 22 r5 = 0 := by rw [e5, ← e4]; omega
        rw [hz9]
        have h9 := cn0_dn (B := a 22) (g := r5) (y := 1) (by omega) (n := (s 32).toNat)
        have h8 : cn0 (updI (a 22) r5 1) (s 32).toNat + 1 ≤ s 32 := cn0_lt (by omega) (by omega) (by omega)
        have hD2 := DF_push (g := r5) hD (by omega) ⟨by omega, by omega⟩ m8 (fun z9 => absurd z9 (by omega))
        refine M_isFin_2T (Zp := fun j => ∃ q, 0 ≤ q ∧ q ≤ i ∧ j = rt q) hA hG hK (2 * s 32 + 2).toNat 1 _ (by omega) (fun j h1 h2 => by simp [updA, h1, h2, fA j h1 h2]) (fun j z y => ?_) (fun j z y => ?_) ?_ hD2 (fun j z => ?_) ?_ kf ?_
        · show 0 ≤ updI (a 22) _ 1 j ∧ updI (a 22) _ 1 j ≤ 2; have := hmk j z y; unfold updI; split <;> omega
        · rw [show j = 0 by omega]; show 0 ≤ updI (a 23) 0 r5 0 ∧ updI (a 23) 0 r5 0 < s 32; omega
        · show 1 + cn0 (updI (a 22) r5 1) _ ≤ _; omega
        · show updI (a 22) r5 1 j ≠ 0
          obtain ⟨q, q0, q1, q2⟩ := z
          by_cases c : q = i
          · rw [q2, c, ← e5, updI_s]; omega
          · have := hzp (rt q) ⟨q, q0, by omega, rfl⟩
            rw [q2]; unfold updI; split <;> omega
        · intro a5 fA5 hmk5 hD5 hzp5 w'
          refine pm_e_inc (y := iI (i + 1)) pm_a209_247 rfl (iI_add _ _) (by decide +kernel) rfl ?_
          show pm_E _ _ _ 250 [(0, .ref 18), (1, .int (iI (i + 1))), (2, .int (iI (w')))] [] _ _ _ _
          refine pm_e_goto pm_a209_250 rfl ?_
          show pm_E _ _ _ 25 [(0, .ref 18), (1, .int (iI (i + 1))), (2, .int (iI (w')))] [] _ _ _ _
          show pm_E _ _ _ 25 ([(0, .ref 18), (1, .int (iI (i + 1)))] ++ [(2, .int (iI (w')))]) [] _ _ _ _
          refine pm_e_more [(2, .int (iI (w')))] (show ([0, 1, 2] : List Nat).Nodup from by decide) ?_
          exact ih (i + 1) a5 (by omega) (by omega) fA5 hmk5 hD5 (fun j ⟨q, q0, q1, q2⟩ => hzp5 j ⟨q, q0, by omega, q2⟩) k kf (by omega)
        · have hc8 := cn0_le (B := updI (a 22) r5 1) (n := (s 32).toNat); show 2 * cn0 (updI (a 22) r5 1) _ + 1 < _; omega
set_option maxHeartbeats 4000000 in
set_option maxRecDepth 100000 in
theorem M_isFiniteT {d : Nat} {A B : List va_E} {s : Nat → Int} {vl : Int64} {a : Nat → Int → Int} {nm : Nat → Int64} {Q : Option Value → List va_E → Nat → Nat → Prop} {rt : Int → Int} (hA : A.length = 18) (hG : GS (a 17) (a 18) (a 19) (s 32) rt) (hK : s 32 ≤ 6000) (k1 : ∀ (a' : Nat → Int → Int), (∀ j, j ≠ 22 → j ≠ 23 → a' j = a j) → (∃ h, RK (s 32) (-4) (a 18) (a 19) rt h) → Q (some (.int (iI 1))) (mh A s vl a' nm B) 0 0) (k0 : ∀ (a' : Nat → Int → Int), (∀ j, j ≠ 22 → j ≠ 23 → a' j = a j) → (∀ t, ¬ SOL (s 32) (-4) (a 18) (a 19) rt t) → Q (some (.int (iI 0))) (mh A s vl a' nm B) 0 0) : pm_E none (d + 1) pm_mm209 0 [(0, .ref 18)] [] (mh A s vl a nm B) 0 0 Q := by
  have hK0 := hG.1.1
  refine pm_e_sim pm_a209_0 rfl ?_
  refine pm_e_top (y := iI 0) (by decide +kernel) ?_
  show pm_E _ _ _ 1 [(0, .ref 18)] [.int (iI 0)] _ _ _ _
  refine pm_e_sim pm_a209_1 rfl ?_
  show pm_E _ _ _ 2 [(0, .ref 18), (1, .int (iI 0))] [] _ _ _ _
  refine M_isFin_1 (a0 := a) hA hG.1 hK (s 32 + 1).toNat 0 a (by omega) (by omega) (fun j _ _ => rfl) (fun j z y => by omega) ?_ (by omega)
  intro a1 fA1 hm1 i1
  refine pm_e_sim pm_a209_23 rfl ?_
  refine pm_e_top (y := iI 0) (by decide +kernel) ?_
  show pm_E _ _ _ 24 [(0, .ref 18), (1, .int (iI i1))] [.int (iI 0)] _ _ _ _
  refine pm_e_sim pm_a209_24 rfl ?_
  show pm_E _ _ _ 25 [(0, .ref 18), (1, .int (iI 0))] [] _ _ _ _
  exact M_isFin_3T (a0 := a) hA hG hK (s 32 + 1).toNat 0 a1 (by omega) (by omega) fA1 (fun j z y => by rw [hm1 j z y]; omega) (DF_beg hm1) (fun j ⟨q, q0, q1, _⟩ => by omega) k1 k0 (by omega)
