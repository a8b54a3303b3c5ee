/-! THE REFERENCE: code, redexes, count -/
set_option maxHeartbeats 4000000 in
set_option maxRecDepth 100000 in
theorem M_code {d : Nat} {A B : List va_E} {s : Nat → Int} {vl : Int64} {a : Nat → Int → Int} {nm : Nat → Int64} {Q : Option Value → List va_E → Nat → Nat → Prop} {x i : Int} (hA : A.length = 18) (hx : in32 x) (hi : in32 i) (h0 : 0 ≤ s 0) (h1 : s 0 ≤ 32) (hsz : ∀ t, 0 ≤ t → t < s 0 → 1 ≤ a 1 t ∧ a 1 t ≤ 500) (k1 : 0 ≤ x → x < s 0 → 0 ≤ i → i < a 1 x → Q (some (.int (iI (a 2 (500 * x + i))))) (mh A s vl a nm B) 0 0) (k2 : x < 0 ∨ s 0 ≤ x ∨ i < 0 ∨ a 1 x ≤ i → Q (some (.int (iI (-1)))) (mh A s vl a nm B) 0 0) : pm_E none (d + 2) pm_mm166 0 [(0, .ref 18), (1, .int (iI x)), (2, .int (iI i))] [] (mh A s vl a nm B) 0 0 Q := by
  refine pm_e_sim pm_a166_0 rfl ?_
  show pm_E _ _ _ 1 [(0, .ref 18), (1, .int (iI x)), (2, .int (iI i))] [.ref 18] _ _ _ _
  refine pm_e_sim pm_a166_1 rfl ?_
  show pm_E _ _ _ 2 [(0, .ref 18), (1, .int (iI x)), (2, .int (iI i))] [.int (iI x), .ref 18] _ _ _ _
  refine pm_i_callv (k := 18) (T2 := pm_mm165) pm_a166_2 rfl rfl rfl (mh_get (j := 0) hA rfl) ⟨Nat.le_of_ble_eq_true rfl, Nat.le_of_ble_eq_true rfl, rfl, by decide +kernel⟩ ?_
  show pm_E none _ _ 0 [(0, .ref 18), (1, .int (iI x))] [] _ _ _ _
  refine M_isTerm hA ⟨by omega, by omega⟩ (by omega) (by omega) (fun h_1 => ?_) (fun h_1 => ?_)
  · skip
    obtain ⟨z_1, y_1⟩ := hsz (x) (by omega) (by omega)
    show pm_E _ _ _ 5 [(0, .ref 18), (1, .int (iI x)), (2, .int (iI i))] [.int (iI 1)] _ _ _ _
    refine pm_e_iff pm_a166_5 rfl (by decide +kernel) ?_
    show pm_E _ _ _ 8 [(0, .ref 18), (1, .int (iI x)), (2, .int (iI i))] [] _ _ _ _
    refine pm_e_sim pm_a166_8 rfl ?_
    show pm_E _ _ _ 9 [(0, .ref 18), (1, .int (iI x)), (2, .int (iI i))] [.int (iI i)] _ _ _ _
    refine pm_e_sim pm_a166_9 rfl ?_
    refine pm_l_top (y := lI (i)) (iI_l ⟨by omega, by omega⟩) ?_
    show pm_E _ _ _ 10 [(0, .ref 18), (1, .int (iI x)), (2, .int (iI i))] [.long (lI i)] _ _ _ _
    refine pm_e_sim pm_a166_10 rfl ?_
    refine pm_l_top (y := lI 0) (by decide +kernel) ?_
    show pm_E _ _ _ 11 [(0, .ref 18), (1, .int (iI x)), (2, .int (iI i))] [.long (lI 0), .long (lI i)] _ _ _ _
    refine pm_e_sim pm_a166_11 rfl ?_
    show pm_E _ _ _ 12 [(0, .ref 18), (1, .int (iI x)), (2, .int (iI i))] [.ref 18, .long (lI 0), .long (lI i)] _ _ _ _
    refine pm_i_get pm_a166_12 rfl (mh_get (j := 0) hA rfl) rfl ?_
    show pm_E _ _ _ 15 [(0, .ref 18), (1, .int (iI x)), (2, .int (iI i))] [.ref 19, .long (lI 0), .long (lI i)] _ _ _ _
    refine pm_e_sim pm_a166_15 rfl ?_
    show pm_E _ _ _ 16 [(0, .ref 18), (1, .int (iI x)), (2, .int (iI i))] [.int (iI x), .ref 19, .long (lI 0), .long (lI i)] _ _ _ _
    refine pm_i_ald pm_a166_16 (mh_get (j := 1) hA rfl) (by omega) (by omega) ⟨by omega, by omega⟩ ?_
    show pm_E _ _ _ 17 [(0, .ref 18), (1, .int (iI x)), (2, .int (iI i))] [.int (iI ((a 1) (x))), .long (lI 0), .long (lI i)] _ _ _ _
    refine pm_e_sim pm_a166_17 rfl ?_
    refine pm_e_top (y := iI 1) (by decide +kernel) ?_
    show pm_E _ _ _ 18 [(0, .ref 18), (1, .int (iI x)), (2, .int (iI i))] [.int (iI 1), .int (iI ((a 1) (x))), .long (lI 0), .long (lI i)] _ _ _ _
    refine pm_e_sim pm_a166_18 rfl ?_
    refine pm_e_top (y := iI ((a 1) (x) - 1)) (iI_sub _ _) ?_
    show pm_E _ _ _ 19 [(0, .ref 18), (1, .int (iI x)), (2, .int (iI i))] [.int (iI ((a 1) (x) - 1)), .long (lI 0), .long (lI i)] _ _ _ _
    refine pm_e_sim pm_a166_19 rfl ?_
    refine pm_l_top (y := lI ((a 1) (x) - 1)) (iI_l ⟨by omega, by omega⟩) ?_
    show pm_E _ _ _ 20 [(0, .ref 18), (1, .int (iI x)), (2, .int (iI i))] [.long (lI ((a 1) (x) - 1)), .long (lI 0), .long (lI i)] _ _ _ _
    refine pm_e_call (T2 := pm_mm147) pm_a166_20 rfl rfl rfl rfl rfl rfl rfl rfl rfl ?_
    show pm_E none _ _ 0 [(0, .long (lI i)), (2, .long (lI 0)), (4, .long (lI ((a 1) (x) - 1)))] [] _ _ _ _
    refine M_in ⟨by omega, by omega⟩ ⟨by omega, by omega⟩ ⟨by omega, by omega⟩ (fun h_2 => ?_) (fun h_2 => ?_)
    · skip
      show pm_E _ _ _ 23 [(0, .ref 18), (1, .int (iI x)), (2, .int (iI i))] [.int (iI 1)] _ _ _ _
      refine pm_e_iff pm_a166_23 rfl (by decide +kernel) ?_
      show pm_E _ _ _ 26 [(0, .ref 18), (1, .int (iI x)), (2, .int (iI i))] [] _ _ _ _
      refine pm_e_sim pm_a166_26 rfl ?_
      show pm_E _ _ _ 27 [(0, .ref 18), (1, .int (iI x)), (2, .int (iI i))] [.ref 18] _ _ _ _
      refine pm_i_get pm_a166_27 rfl (mh_get (j := 0) hA rfl) rfl ?_
      show pm_E _ _ _ 30 [(0, .ref 18), (1, .int (iI x)), (2, .int (iI i))] [.ref 20] _ _ _ _
      refine pm_e_sim pm_a166_30 rfl ?_
      refine pm_e_top (y := iI 500) (by decide +kernel) ?_
      show pm_E _ _ _ 33 [(0, .ref 18), (1, .int (iI x)), (2, .int (iI i))] [.int (iI 500), .ref 20] _ _ _ _
      refine pm_e_sim pm_a166_33 rfl ?_
      show pm_E _ _ _ 34 [(0, .ref 18), (1, .int (iI x)), (2, .int (iI i))] [.int (iI x), .int (iI 500), .ref 20] _ _ _ _
      refine pm_e_sim pm_a166_34 rfl ?_
      refine pm_e_top (y := iI (500 * x)) (iI_mul _ _) ?_
      show pm_E _ _ _ 35 [(0, .ref 18), (1, .int (iI x)), (2, .int (iI i))] [.int (iI (500 * x)), .ref 20] _ _ _ _
      refine pm_e_sim pm_a166_35 rfl ?_
      show pm_E _ _ _ 36 [(0, .ref 18), (1, .int (iI x)), (2, .int (iI i))] [.int (iI i), .int (iI (500 * x)), .ref 20] _ _ _ _
      refine pm_e_sim pm_a166_36 rfl ?_
      refine pm_e_top (y := iI (500 * x + i)) (iI_add _ _) ?_
      show pm_E _ _ _ 37 [(0, .ref 18), (1, .int (iI x)), (2, .int (iI i))] [.int (iI (500 * x + i)), .ref 20] _ _ _ _
      refine pm_i_ald pm_a166_37 (mh_get (j := 2) hA rfl) (by omega) (by omega) ⟨by omega, by omega⟩ ?_
      show pm_E _ _ _ 38 [(0, .ref 18), (1, .int (iI x)), (2, .int (iI i))] [.int (iI ((a 2) (500 * x + i)))] _ _ _ _
      refine pm_e_goto pm_a166_38 rfl ?_
      show pm_E _ _ _ 42 [(0, .ref 18), (1, .int (iI x)), (2, .int (iI i))] [.int (iI ((a 2) (500 * x + i)))] _ _ _ _
      refine pm_e_ret pm_a166_42 rfl rfl rfl rfl rfl rfl rfl rfl ?_
      exact k1 (by omega) (by omega) (by omega) (by omega)
    · skip
      show pm_E _ _ _ 23 [(0, .ref 18), (1, .int (iI x)), (2, .int (iI i))] [.int (iI 0)] _ _ _ _
      refine pm_e_ift pm_a166_23 rfl (by decide +kernel) ?_
      show pm_E _ _ _ 41 [(0, .ref 18), (1, .int (iI x)), (2, .int (iI i))] [] _ _ _ _
      refine pm_e_sim pm_a166_41 rfl ?_
      refine pm_e_top (y := iI (-1)) (by decide +kernel) ?_
      show pm_E _ _ _ 42 [(0, .ref 18), (1, .int (iI x)), (2, .int (iI i))] [.int (iI (-1))] _ _ _ _
      refine pm_e_ret pm_a166_42 rfl rfl rfl rfl rfl rfl rfl rfl ?_
      exact k2 (by omega)
  · skip
    show pm_E _ _ _ 5 [(0, .ref 18), (1, .int (iI x)), (2, .int (iI i))] [.int (iI 0)] _ _ _ _
    refine pm_e_ift pm_a166_5 rfl (by decide +kernel) ?_
    show pm_E _ _ _ 41 [(0, .ref 18), (1, .int (iI x)), (2, .int (iI i))] [] _ _ _ _
    refine pm_e_sim pm_a166_41 rfl ?_
    refine pm_e_top (y := iI (-1)) (by decide +kernel) ?_
    show pm_E _ _ _ 42 [(0, .ref 18), (1, .int (iI x)), (2, .int (iI i))] [.int (iI (-1))] _ _ _ _
    refine pm_e_ret pm_a166_42 rfl rfl rfl rfl rfl rfl rfl rfl ?_
    exact k2 (by omega)
theorem cpI_in {F g : Int → Int} {o i e : Int} (hF : ∀ j, in32 (F j)) (hg : ∀ j, in32 (g j)) (j : Int) : in32 (cpI F g o i e j) := by
  unfold cpI
  split
  · exact hg _
  · exact hF _
set_option maxHeartbeats 4000000 in
set_option maxRecDepth 100000 in
theorem M_redexes {d : Nat} {A B : List va_E} {s : Nat → Int} {vl : Int64} {a : Nat → Int → Int} {nm : Nat → Int64} {Q : Option Value → List va_E → Nat → Nat → Prop} {x : Int} (hA : A.length = 18) (hx : in32 x) (h0 : 0 ≤ s 0) (h1 : s 0 ≤ 32) (hsz : ∀ t, 0 ≤ t → t < s 0 → 1 ≤ a 1 t ∧ a 1 t ≤ 500) (hr : ∀ j, in32 (a 4 j)) (hc : ∀ j, in32 (a 2 j)) (k1 : 0 ≤ x → x < s 0 → Q (some (.int (iI (cnt (cpI (a 4) (a 2) (500 * x) 0 (a 1 x)) (a 1 x) (a 1 x).toNat 0 0)))) (mh A (updS s 6 (a 1 x)) vl (updA a 4 (cpI (a 4) (a 2) (500 * x) 0 (a 1 x))) nm B) 0 0) (k2 : x < 0 ∨ s 0 ≤ x → Q (some (.int (iI (-1)))) (mh A s vl a nm B) 0 0) : pm_E none (d + 2) pm_mm192 0 [(0, .ref 18), (1, .int (iI x))] [] (mh A s vl a nm B) 0 0 Q := by
  refine pm_e_sim pm_a192_0 rfl ?_
  show pm_E _ _ _ 1 [(0, .ref 18), (1, .int (iI x))] [.ref 18] _ _ _ _
  refine pm_e_sim pm_a192_1 rfl ?_
  show pm_E _ _ _ 2 [(0, .ref 18), (1, .int (iI x))] [.int (iI x), .ref 18] _ _ _ _
  refine pm_i_callv (k := 18) (T2 := pm_mm165) pm_a192_2 rfl rfl rfl (mh_get (j := 0) hA rfl) ⟨Nat.le_of_ble_eq_true rfl, Nat.le_of_ble_eq_true rfl, rfl, by decide +kernel⟩ ?_
  show pm_E none _ _ 0 [(0, .ref 18), (1, .int (iI x))] [] _ _ _ _
  refine M_isTerm hA ⟨by omega, by omega⟩ (by omega) (by omega) (fun h_1 => ?_) (fun h_1 => ?_)
  · skip
    obtain ⟨z_1, y_1⟩ := hsz (x) (by omega) (by omega)
    show pm_E _ _ _ 5 [(0, .ref 18), (1, .int (iI x))] [.int (iI 1)] _ _ _ _
    refine pm_e_ift pm_a192_5 rfl (by decide +kernel) ?_
    show pm_E _ _ _ 10 [(0, .ref 18), (1, .int (iI x))] [] _ _ _ _
    refine pm_e_sim pm_a192_10 rfl ?_
    show pm_E _ _ _ 11 [(0, .ref 18), (1, .int (iI x))] [.ref 18] _ _ _ _
    refine pm_e_sim pm_a192_11 rfl ?_
    show pm_E _ _ _ 12 [(0, .ref 18), (1, .int (iI x))] [.int (iI x), .ref 18] _ _ _ _
    refine pm_i_callv (k := 18) (T2 := pm_mm168) pm_a192_12 rfl rfl rfl (mh_get (j := 0) hA rfl) ⟨Nat.le_of_ble_eq_true rfl, Nat.le_of_ble_eq_true rfl, rfl, by decide +kernel⟩ ?_
    show pm_E none _ _ 0 [(0, .ref 18), (1, .int (iI x))] [] _ _ _ _
    refine M_take hA (by omega) (by omega) (by omega) (by omega) (fun s1 a1 e1 f1 => ?_)
    subst e1 f1
    show pm_E _ _ _ 15 [(0, .ref 18), (1, .int (iI x))] [] _ _ _ _
    refine pm_e_sim pm_a192_15 rfl ?_
    show pm_E _ _ _ 16 [(0, .ref 18), (1, .int (iI x))] [.ref 18] _ _ _ _
    refine pm_i_callv (k := 18) (T2 := pm_mm193) pm_a192_16 rfl rfl rfl (mh_get (j := 0) hA rfl) ⟨Nat.le_of_ble_eq_true rfl, Nat.le_of_ble_eq_true rfl, rfl, by decide +kernel⟩ ?_
    show pm_E none _ _ 0 [(0, .ref 18)] [] _ _ _ _
    refine M_count0 hA (fun j => cpI_in hr hc j) (show 0 ≤ a 1 x by omega) (show a 1 x ≤ 500 by omega) ?_
    show pm_E _ _ _ 19 [(0, .ref 18), (1, .int (iI x))] [.int (iI (cnt (cpI (a 4) (a 2) (500 * x) 0 (a 1 (x))) (a 1 x) (a 1 x).toNat 0 0))] _ _ _ _
    refine pm_e_ret pm_a192_19 rfl rfl rfl rfl rfl rfl rfl rfl ?_
    exact k1 (by omega) (by omega)
  · skip
    show pm_E _ _ _ 5 [(0, .ref 18), (1, .int (iI x))] [.int (iI 0)] _ _ _ _
    refine pm_e_iff pm_a192_5 rfl (by decide +kernel) ?_
    show pm_E _ _ _ 8 [(0, .ref 18), (1, .int (iI x))] [] _ _ _ _
    refine pm_e_sim pm_a192_8 rfl ?_
    refine pm_e_top (y := iI (-1)) (by decide +kernel) ?_
    show pm_E _ _ _ 9 [(0, .ref 18), (1, .int (iI x))] [.int (iI (-1))] _ _ _ _
    refine pm_e_ret pm_a192_9 rfl rfl rfl rfl rfl rfl rfl rfl ?_
    exact k2 (by omega)
/-- the sum of g from i on, f of them, with n before -/
def suI (g : Int → Int) : Nat → Int → Int → Int
  | 0, _, n => n
  | f + 1, i, n => suI g f (i + 1) (n + g i)
set_option maxHeartbeats 4000000 in
set_option maxRecDepth 100000 in
theorem M_count_l {d : Nat} {A B : List va_E} {s : Nat → Int} {vl : Int64} {a : Nat → Int → Int} {nm : Nat → Int64} {Q : Option Value → List va_E → Nat → Nat → Prop} {x : Int} (hA : A.length = 18) (hx : in32 x) (h4 : 0 ≤ s 4 ∧ s 4 ≤ 600) (h0 : 0 ≤ s 0) (h1 : s 0 ≤ 32) (hsz : ∀ t, 0 ≤ t → t < s 0 → 1 ≤ a 1 t ∧ a 1 t ≤ 500) : ∀ (f : Nat) (i n : Int), 0 ≤ i → i + f = s 0 → 0 ≤ n → n ≤ 500 * i → (k1 : x = 0 → Q (some (.int (iI (s 0)))) (mh A s vl a nm B) 0 0) → (k2 : x = 1 → Q (some (.int (iI (s 4)))) (mh A s vl a nm B) 0 0) → (k3 : x = 2 → Q (some (.int (iI (suI (a 1) f i n)))) (mh A s vl a nm B) 0 0) → (k4 : x ≠ 0 → x ≠ 1 → x ≠ 2 → Q (some (.int (iI (-1)))) (mh A s vl a nm B) 0 0) → pm_E none d pm_mm214 4 [(0, .ref 18), (1, .int (iI x)), (2, .int (iI n)), (3, .int (iI i))] [] (mh A s vl a nm B) 0 0 Q := by
  intro f
  induction f with
  | zero =>
    intro i n h2 h3 h5 h6 k1 k2 k3 k4
    change x = 2 → Q (some (.int (iI n))) _ 0 0 at k3
    refine pm_e_sim pm_a214_4 rfl ?_
    show pm_E _ _ _ 5 [(0, .ref 18), (1, .int (iI x)), (2, .int (iI n)), (3, .int (iI i))] [.int (iI i)] _ _ _ _
    refine pm_e_sim pm_a214_5 rfl ?_
    show pm_E _ _ _ 6 [(0, .ref 18), (1, .int (iI x)), (2, .int (iI n)), (3, .int (iI i))] [.ref 18, .int (iI i)] _ _ _ _
    refine pm_i_get pm_a214_6 rfl (mh_get (j := 0) hA rfl) rfl ?_
    show pm_E _ _ _ 9 [(0, .ref 18), (1, .int (iI x)), (2, .int (iI n)), (3, .int (iI i))] [.int (iI (s 0)), .int (iI i)] _ _ _ _
    refine pm_c_ge (t := 27) pm_a214_9 rfl ⟨by omega, by omega⟩ ⟨by omega, by omega⟩ (fun h_1 => ?_) (fun h_1 => ?_)
    · skip
      show pm_E _ _ _ 27 [(0, .ref 18), (1, .int (iI x)), (2, .int (iI n)), (3, .int (iI i))] [] _ _ _ _
      refine pm_e_sim pm_a214_27 rfl ?_
      show pm_E _ _ _ 28 [(0, .ref 18), (1, .int (iI x)), (2, .int (iI n)), (3, .int (iI i))] [.int (iI x)] _ _ _ _
      refine pm_i_ne (t := 38) pm_a214_28 rfl ⟨by omega, by omega⟩ (fun h_2 => ?_) (fun h_2 => ?_)
      · skip
        show pm_E _ _ _ 38 [(0, .ref 18), (1, .int (iI x)), (2, .int (iI n)), (3, .int (iI i))] [] _ _ _ _
        refine pm_e_sim pm_a214_38 rfl ?_
        show pm_E _ _ _ 39 [(0, .ref 18), (1, .int (iI x)), (2, .int (iI n)), (3, .int (iI i))] [.int (iI x)] _ _ _ _
        refine pm_e_sim pm_a214_39 rfl ?_
        refine pm_e_top (y := iI 1) (by decide +kernel) ?_
        show pm_E _ _ _ 40 [(0, .ref 18), (1, .int (iI x)), (2, .int (iI n)), (3, .int (iI i))] [.int (iI 1), .int (iI x)] _ _ _ _
        refine pm_c_ne (t := 50) pm_a214_40 rfl ⟨by omega, by omega⟩ ⟨by omega, by omega⟩ (fun h_3 => ?_) (fun h_3 => ?_)
        · skip
          show pm_E _ _ _ 50 [(0, .ref 18), (1, .int (iI x)), (2, .int (iI n)), (3, .int (iI i))] [] _ _ _ _
          refine pm_e_sim pm_a214_50 rfl ?_
          show pm_E _ _ _ 51 [(0, .ref 18), (1, .int (iI x)), (2, .int (iI n)), (3, .int (iI i))] [.int (iI x)] _ _ _ _
          refine pm_e_sim pm_a214_51 rfl ?_
          refine pm_e_top (y := iI 2) (by decide +kernel) ?_
          show pm_E _ _ _ 52 [(0, .ref 18), (1, .int (iI x)), (2, .int (iI n)), (3, .int (iI i))] [.int (iI 2), .int (iI x)] _ _ _ _
          refine pm_c_ne (t := 59) pm_a214_52 rfl ⟨by omega, by omega⟩ ⟨by omega, by omega⟩ (fun h_4 => ?_) (fun h_4 => ?_)
          · skip
            show pm_E _ _ _ 59 [(0, .ref 18), (1, .int (iI x)), (2, .int (iI n)), (3, .int (iI i))] [] _ _ _ _
            refine pm_e_sim pm_a214_59 rfl ?_
            refine pm_e_top (y := iI (-1)) (by decide +kernel) ?_
            show pm_E _ _ _ 60 [(0, .ref 18), (1, .int (iI x)), (2, .int (iI n)), (3, .int (iI i))] [.int (iI (-1))] _ _ _ _
            refine pm_e_ret pm_a214_60 rfl rfl rfl rfl rfl rfl rfl rfl ?_
            exact k4 (by omega) (by omega) (by omega)
          · skip
            show pm_E _ _ _ 55 [(0, .ref 18), (1, .int (iI x)), (2, .int (iI n)), (3, .int (iI i))] [] _ _ _ _
            refine pm_e_sim pm_a214_55 rfl ?_
            show pm_E _ _ _ 56 [(0, .ref 18), (1, .int (iI x)), (2, .int (iI n)), (3, .int (iI i))] [.int (iI n)] _ _ _ _
            refine pm_e_goto pm_a214_56 rfl ?_
            show pm_E _ _ _ 60 [(0, .ref 18), (1, .int (iI x)), (2, .int (iI n)), (3, .int (iI i))] [.int (iI n)] _ _ _ _
            refine pm_e_ret pm_a214_60 rfl rfl rfl rfl rfl rfl rfl rfl ?_
            exact k3 (by omega)
        · skip
          show pm_E _ _ _ 43 [(0, .ref 18), (1, .int (iI x)), (2, .int (iI n)), (3, .int (iI i))] [] _ _ _ _
          refine pm_e_sim pm_a214_43 rfl ?_
          show pm_E _ _ _ 44 [(0, .ref 18), (1, .int (iI x)), (2, .int (iI n)), (3, .int (iI i))] [.ref 18] _ _ _ _
          refine pm_i_get pm_a214_44 rfl (mh_get (j := 0) hA rfl) rfl ?_
          show pm_E _ _ _ 47 [(0, .ref 18), (1, .int (iI x)), (2, .int (iI n)), (3, .int (iI i))] [.int (iI (s 4))] _ _ _ _
          refine pm_e_goto pm_a214_47 rfl ?_
          show pm_E _ _ _ 60 [(0, .ref 18), (1, .int (iI x)), (2, .int (iI n)), (3, .int (iI i))] [.int (iI (s 4))] _ _ _ _
          refine pm_e_ret pm_a214_60 rfl rfl rfl rfl rfl rfl rfl rfl ?_
          exact k2 (by omega)
      · skip
        show pm_E _ _ _ 31 [(0, .ref 18), (1, .int (iI x)), (2, .int (iI n)), (3, .int (iI i))] [] _ _ _ _
        refine pm_e_sim pm_a214_31 rfl ?_
        show pm_E _ _ _ 32 [(0, .ref 18), (1, .int (iI x)), (2, .int (iI n)), (3, .int (iI i))] [.ref 18] _ _ _ _
        refine pm_i_get pm_a214_32 rfl (mh_get (j := 0) hA rfl) rfl ?_
        show pm_E _ _ _ 35 [(0, .ref 18), (1, .int (iI x)), (2, .int (iI n)), (3, .int (iI i))] [.int (iI (s 0))] _ _ _ _
        refine pm_e_goto pm_a214_35 rfl ?_
        show pm_E _ _ _ 60 [(0, .ref 18), (1, .int (iI x)), (2, .int (iI n)), (3, .int (iI i))] [.int (iI (s 0))] _ _ _ _
        refine pm_e_ret pm_a214_60 rfl rfl rfl rfl rfl rfl rfl rfl ?_
        exact k1 (by omega)
    · skip
      exfalso; omega
  | succ f ih =>
    intro i n h2 h3 h5 h6 k1 k2 k3 k4
    obtain ⟨z0, y0⟩ := hsz i (by omega) (by omega)
    change x = 2 → Q (some (.int (iI (suI (a 1) f (i + 1) (n + a 1 i))))) _ 0 0 at k3
    refine pm_e_sim pm_a214_4 rfl ?_
    show pm_E _ _ _ 5 [(0, .ref 18), (1, .int (iI x)), (2, .int (iI n)), (3, .int (iI i))] [.int (iI i)] _ _ _ _
    refine pm_e_sim pm_a214_5 rfl ?_
    show pm_E _ _ _ 6 [(0, .ref 18), (1, .int (iI x)), (2, .int (iI n)), (3, .int (iI i))] [.ref 18, .int (iI i)] _ _ _ _
    refine pm_i_get pm_a214_6 rfl (mh_get (j := 0) hA rfl) rfl ?_
    show pm_E _ _ _ 9 [(0, .ref 18), (1, .int (iI x)), (2, .int (iI n)), (3, .int (iI i))] [.int (iI (s 0)), .int (iI i)] _ _ _ _
    refine pm_c_ge (t := 27) pm_a214_9 rfl ⟨by omega, by omega⟩ ⟨by omega, by omega⟩ (fun h_1 => ?_) (fun h_1 => ?_)
    · skip
      exfalso; omega
    · skip
      show pm_E _ _ _ 12 [(0, .ref 18), (1, .int (iI x)), (2, .int (iI n)), (3, .int (iI i))] [] _ _ _ _
      refine pm_e_sim pm_a214_12 rfl ?_
      show pm_E _ _ _ 13 [(0, .ref 18), (1, .int (iI x)), (2, .int (iI n)), (3, .int (iI i))] [.int (iI n)] _ _ _ _
      refine pm_e_sim pm_a214_13 rfl ?_
      show pm_E _ _ _ 14 [(0, .ref 18), (1, .int (iI x)), (2, .int (iI n)), (3, .int (iI i))] [.ref 18, .int (iI n)] _ _ _ _
      refine pm_i_get pm_a214_14 rfl (mh_get (j := 0) hA rfl) rfl ?_
      show pm_E _ _ _ 17 [(0, .ref 18), (1, .int (iI x)), (2, .int (iI n)), (3, .int (iI i))] [.ref 19, .int (iI n)] _ _ _ _
      refine pm_e_sim pm_a214_17 rfl ?_
      show pm_E _ _ _ 18 [(0, .ref 18), (1, .int (iI x)), (2, .int (iI n)), (3, .int (iI i))] [.int (iI i), .ref 19, .int (iI n)] _ _ _ _
      refine pm_i_ald pm_a214_18 (mh_get (j := 1) hA rfl) (by omega) (by omega) ⟨by omega, by omega⟩ ?_
      show pm_E _ _ _ 19 [(0, .ref 18), (1, .int (iI x)), (2, .int (iI n)), (3, .int (iI i))] [.int (iI ((a 1) (i))), .int (iI n)] _ _ _ _
      refine pm_e_sim pm_a214_19 rfl ?_
      refine pm_e_top (y := iI (n + ((a 1) (i)))) (iI_add _ _) ?_
      show pm_E _ _ _ 20 [(0, .ref 18), (1, .int (iI x)), (2, .int (iI n)), (3, .int (iI i))] [.int (iI (n + ((a 1) (i))))] _ _ _ _
      refine pm_e_sim pm_a214_20 rfl ?_
      show pm_E _ _ _ 21 [(0, .ref 18), (1, .int (iI x)), (2, .int (iI (n + ((a 1) (i))))), (3, .int (iI i))] [] _ _ _ _
      refine pm_e_inc (y := iI (i + 1)) pm_a214_21 rfl (iI_add _ _) (by decide +kernel) rfl ?_
      show pm_E _ _ _ 24 [(0, .ref 18), (1, .int (iI x)), (2, .int (iI (n + ((a 1) (i))))), (3, .int (iI (i + 1)))] [] _ _ _ _
      refine pm_e_goto pm_a214_24 rfl ?_
      show pm_E _ _ _ 4 [(0, .ref 18), (1, .int (iI x)), (2, .int (iI (n + ((a 1) (i))))), (3, .int (iI (i + 1)))] [] _ _ _ _
      exact ih (i + 1) (n + a 1 i) (by omega) (by omega) (by omega) (by omega) k1 k2 k3 k4
set_option maxHeartbeats 4000000 in
set_option maxRecDepth 100000 in
theorem M_count {d : Nat} {A B : List va_E} {s : Nat → Int} {vl : Int64} {a : Nat → Int → Int} {nm : Nat → Int64} {Q : Option Value → List va_E → Nat → Nat → Prop} {x : Int} (hA : A.length = 18) (hx : in32 x) (h4 : 0 ≤ s 4 ∧ s 4 ≤ 600) (h0 : 0 ≤ s 0) (h1 : s 0 ≤ 32) (hsz : ∀ t, 0 ≤ t → t < s 0 → 1 ≤ a 1 t ∧ a 1 t ≤ 500) (k1 : x = 0 → Q (some (.int (iI (s 0)))) (mh A s vl a nm B) 0 0)  (k2 : x = 1 → Q (some (.int (iI (s 4)))) (mh A s vl a nm B) 0 0)  (k3 : x = 2 → Q (some (.int (iI (suI (a 1) (s 0).toNat 0 0)))) (mh A s vl a nm B) 0 0)  (k4 : x ≠ 0 → x ≠ 1 → x ≠ 2 → Q (some (.int (iI (-1)))) (mh A s vl a nm B) 0 0) : pm_E none d pm_mm214 0 [(0, .ref 18), (1, .int (iI x))] [] (mh A s vl a nm B) 0 0 Q := by
  refine pm_e_sim pm_a214_0 rfl ?_
  refine pm_e_top (y := iI 0) (by decide +kernel) ?_
  show pm_E _ _ _ 1 [(0, .ref 18), (1, .int (iI x))] [.int (iI 0)] _ _ _ _
  refine pm_e_sim pm_a214_1 rfl ?_
  show pm_E _ _ _ 2 [(0, .ref 18), (1, .int (iI x)), (2, .int (iI 0))] [] _ _ _ _
  refine pm_e_sim pm_a214_2 rfl ?_
  refine pm_e_top (y := iI 0) (by decide +kernel) ?_
  show pm_E _ _ _ 3 [(0, .ref 18), (1, .int (iI x)), (2, .int (iI 0))] [.int (iI 0)] _ _ _ _
  refine pm_e_sim pm_a214_3 rfl ?_
  show pm_E _ _ _ 4 [(0, .ref 18), (1, .int (iI x)), (2, .int (iI 0)), (3, .int (iI 0))] [] _ _ _ _
  exact M_count_l hA hx h4 h0 h1 hsz (s 0).toNat 0 0 (by omega) (by omega) (by omega) (by omega) k1 k2 k3 k4
