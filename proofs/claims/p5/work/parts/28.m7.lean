/-! THE REFERENCE: level, part -/
set_option maxHeartbeats 4000000 in
set_option maxRecDepth 100000 in
theorem M_level {d : Nat} {A B : List va_E} {s : Nat → Int} {vl : Int64} {a : Nat → Int → Int} {nm : Nat → Int64} {Q : Option Value → List va_E → Nat → Nat → Prop} {x : Int} (hA : A.length = 18) (h0 : 0 ≤ s 18) (h1 : s 18 < 90) (k : Q none (mh A (updS s 18 (s 18 + 1)) vl (updA (updA (updA a 7 (updI (a 7) (s 18) (s 6))) 8 (updI (a 8) (s 18) 0)) 9 (updI (a 9) (s 18) x)) nm B) 0 0) : pm_E none d pm_mm150 0 [(0, .ref 18), (1, .int (iI x))] [] (mh A s vl a nm B) 0 0 Q := by
  refine pm_e_sim pm_a150_0 rfl ?_
  show pm_E _ _ _ 1 [(0, .ref 18), (1, .int (iI x))] [.ref 18] _ _ _ _
  refine pm_i_get pm_a150_1 rfl (mh_get (j := 0) hA rfl) rfl ?_
  show pm_E _ _ _ 4 [(0, .ref 18), (1, .int (iI x))] [.ref 25] _ _ _ _
  refine pm_e_sim pm_a150_4 rfl ?_
  show pm_E _ _ _ 5 [(0, .ref 18), (1, .int (iI x))] [.ref 18, .ref 25] _ _ _ _
  refine pm_i_get pm_a150_5 rfl (mh_get (j := 0) hA rfl) rfl ?_
  show pm_E _ _ _ 8 [(0, .ref 18), (1, .int (iI x))] [.int (iI (s 18)), .ref 25] _ _ _ _
  refine pm_e_sim pm_a150_8 rfl ?_
  show pm_E _ _ _ 9 [(0, .ref 18), (1, .int (iI x))] [.ref 18, .int (iI (s 18)), .ref 25] _ _ _ _
  refine pm_i_get pm_a150_9 rfl (mh_get (j := 0) hA rfl) rfl ?_
  show pm_E _ _ _ 12 [(0, .ref 18), (1, .int (iI x))] [.int (iI (s 6)), .int (iI (s 18)), .ref 25] _ _ _ _
  refine pm_i_ast pm_a150_12 (mh_get (j := 7) hA rfl) (by omega) (by omega) ⟨by omega, by omega⟩ (ma_7 hA _) ?_
  show pm_E _ _ _ 13 [(0, .ref 18), (1, .int (iI x))] [] _ _ _ _
  refine pm_e_sim pm_a150_13 rfl ?_
  show pm_E _ _ _ 14 [(0, .ref 18), (1, .int (iI x))] [.ref 18] _ _ _ _
  refine pm_i_get pm_a150_14 rfl (mh_get (j := 0) hA rfl) rfl ?_
  show pm_E _ _ _ 17 [(0, .ref 18), (1, .int (iI x))] [.ref 26] _ _ _ _
  refine pm_e_sim pm_a150_17 rfl ?_
  show pm_E _ _ _ 18 [(0, .ref 18), (1, .int (iI x))] [.ref 18, .ref 26] _ _ _ _
  refine pm_i_get pm_a150_18 rfl (mh_get (j := 0) hA rfl) rfl ?_
  show pm_E _ _ _ 21 [(0, .ref 18), (1, .int (iI x))] [.int (iI (s 18)), .ref 26] _ _ _ _
  refine pm_e_sim pm_a150_21 rfl ?_
  refine pm_e_top (y := iI 0) (by decide +kernel) ?_
  show pm_E _ _ _ 22 [(0, .ref 18), (1, .int (iI x))] [.int (iI 0), .int (iI (s 18)), .ref 26] _ _ _ _
  refine pm_i_bst pm_a150_22 (mh_get (j := 8) hA rfl) (by omega) (by omega) ⟨by omega, by omega⟩ (by decide +kernel) (ma_8 hA _) ?_
  show pm_E _ _ _ 23 [(0, .ref 18), (1, .int (iI x))] [] _ _ _ _
  refine pm_e_sim pm_a150_23 rfl ?_
  show pm_E _ _ _ 24 [(0, .ref 18), (1, .int (iI x))] [.ref 18] _ _ _ _
  refine pm_i_get pm_a150_24 rfl (mh_get (j := 0) hA rfl) rfl ?_
  show pm_E _ _ _ 27 [(0, .ref 18), (1, .int (iI x))] [.ref 27] _ _ _ _
  refine pm_e_sim pm_a150_27 rfl ?_
  show pm_E _ _ _ 28 [(0, .ref 18), (1, .int (iI x))] [.ref 18, .ref 27] _ _ _ _
  refine pm_i_get pm_a150_28 rfl (mh_get (j := 0) hA rfl) rfl ?_
  show pm_E _ _ _ 31 [(0, .ref 18), (1, .int (iI x))] [.int (iI (s 18)), .ref 27] _ _ _ _
  refine pm_e_sim pm_a150_31 rfl ?_
  show pm_E _ _ _ 32 [(0, .ref 18), (1, .int (iI x))] [.int (iI x), .int (iI (s 18)), .ref 27] _ _ _ _
  refine pm_i_ast pm_a150_32 (mh_get (j := 9) hA rfl) (by omega) (by omega) ⟨by omega, by omega⟩ (ma_9 hA _) ?_
  show pm_E _ _ _ 33 [(0, .ref 18), (1, .int (iI x))] [] _ _ _ _
  refine pm_e_sim pm_a150_33 rfl ?_
  show pm_E _ _ _ 34 [(0, .ref 18), (1, .int (iI x))] [.ref 18] _ _ _ _
  refine pm_e_sim pm_a150_34 rfl ?_
  show pm_E _ _ _ 35 [(0, .ref 18), (1, .int (iI x))] [.ref 18, .ref 18] _ _ _ _
  refine pm_i_get pm_a150_35 rfl (mh_get (j := 0) hA rfl) rfl ?_
  show pm_E _ _ _ 38 [(0, .ref 18), (1, .int (iI x))] [.int (iI (s 18)), .ref 18] _ _ _ _
  refine pm_e_sim pm_a150_38 rfl ?_
  refine pm_e_top (y := iI 1) (by decide +kernel) ?_
  show pm_E _ _ _ 39 [(0, .ref 18), (1, .int (iI x))] [.int (iI 1), .int (iI (s 18)), .ref 18] _ _ _ _
  refine pm_e_sim pm_a150_39 rfl ?_
  refine pm_e_top (y := iI (s 18 + 1)) (iI_add _ _) ?_
  show pm_E _ _ _ 40 [(0, .ref 18), (1, .int (iI x))] [.int (iI (s 18 + 1)), .ref 18] _ _ _ _
  refine pm_i_put pm_a150_40 rfl (mh_get (j := 0) hA rfl) rfl (Nat.le_of_ble_eq_true rfl) (Or.inl rfl) (mw_18 hA _) ?_
  show pm_E _ _ _ 43 [(0, .ref 18), (1, .int (iI x))] [] _ _ _ _
  refine pm_e_ret pm_a150_43 rfl rfl rfl rfl rfl rfl rfl rfl ?_
  exact k
/-- row with what stands from b to i moved up by one -/
def mvI (g : Int → Int) (b i : Int) : Int → Int := fun j => if b < j ∧ j ≤ i then g (j - 1) else g j
theorem mvI_0 {g : Int → Int} {b i : Int} (h : i ≤ b) : mvI g b i = g := by
  funext z
  unfold mvI
  rw [if_neg (by omega)]
theorem mvI_step {g : Int → Int} {b i : Int} (h : b < i) : mvI (updI g i (g (i - 1))) b (i + (-1)) = mvI g b i := by
  funext z
  unfold mvI updI
  by_cases h1 : z = i
  · subst h1
    rw [if_neg (by omega), if_pos rfl, if_pos (by omega)]
  · by_cases h2 : b < z ∧ z ≤ i + (-1)
    · rw [if_pos h2, if_neg (by omega), if_pos (by omega)]
    · rw [if_neg h2, if_neg h1, if_neg (by omega)]
set_option maxHeartbeats 4000000 in
set_option maxRecDepth 100000 in
theorem M_part_l {d : Nat} {A B : List va_E} {s : Nat → Int} {vl : Int64} {a : Nat → Int → Int} {nm : Nat → Int64} {Q : Option Value → List va_E → Nat → Nat → Prop} {l : Int} (hA : A.length = 18) (hl0 : 0 ≤ l) (hl1 : l < 90) (hb0 : 0 ≤ a 7 l) : ∀ (m : Nat) (i : Int) (g : Int → Int), a 7 l + m = i → i < 12000 → (∀ i2, pm_E none d pm_mm156 51 [(0, .ref 18), (1, .int (iI l)), (2, .int (iI i2))] [] (mh A s vl (updA a 4 (mvI g (a 7 l) i)) nm B) 0 0 Q) → pm_E none d pm_mm156 21 [(0, .ref 18), (1, .int (iI l)), (2, .int (iI i))] [] (mh A s vl (updA a 4 g) nm B) 0 0 Q := by
  intro m
  induction m with
  | zero =>
    intro i g hm hi k0
    have k := k0 i
    clear k0
    refine pm_e_sim pm_a156_21 rfl ?_
    show pm_E _ _ _ 22 [(0, .ref 18), (1, .int (iI l)), (2, .int (iI i))] [.int (iI i)] _ _ _ _
    refine pm_e_sim pm_a156_22 rfl ?_
    show pm_E _ _ _ 23 [(0, .ref 18), (1, .int (iI l)), (2, .int (iI i))] [.ref 18, .int (iI i)] _ _ _ _
    refine pm_i_get pm_a156_23 rfl (mh_get (j := 0) hA rfl) rfl ?_
    show pm_E _ _ _ 26 [(0, .ref 18), (1, .int (iI l)), (2, .int (iI i))] [.ref 25, .int (iI i)] _ _ _ _
    refine pm_e_sim pm_a156_26 rfl ?_
    show pm_E _ _ _ 27 [(0, .ref 18), (1, .int (iI l)), (2, .int (iI i))] [.int (iI l), .ref 25, .int (iI i)] _ _ _ _
    refine pm_i_ald pm_a156_27 (mh_get (j := 7) hA rfl) (by omega) (by omega) ⟨by omega, by omega⟩ ?_
    show pm_E _ _ _ 28 [(0, .ref 18), (1, .int (iI l)), (2, .int (iI i))] [.int (iI ((a 7) (l))), .int (iI i)] _ _ _ _
    refine pm_c_le (t := 51) pm_a156_28 rfl ⟨by omega, by omega⟩ ⟨by omega, by omega⟩ (fun h_1 => ?_) (fun h_1 => ?_)
    · skip
      show pm_E _ _ _ 51 [(0, .ref 18), (1, .int (iI l)), (2, .int (iI i))] [] _ _ _ _
      rw [mvI_0 (by omega)] at k
      exact k
    · skip
      exfalso; omega
  | succ m ih =>
    intro i g hm hi k
    refine pm_e_sim pm_a156_21 rfl ?_
    show pm_E _ _ _ 22 [(0, .ref 18), (1, .int (iI l)), (2, .int (iI i))] [.int (iI i)] _ _ _ _
    refine pm_e_sim pm_a156_22 rfl ?_
    show pm_E _ _ _ 23 [(0, .ref 18), (1, .int (iI l)), (2, .int (iI i))] [.ref 18, .int (iI i)] _ _ _ _
    refine pm_i_get pm_a156_23 rfl (mh_get (j := 0) hA rfl) rfl ?_
    show pm_E _ _ _ 26 [(0, .ref 18), (1, .int (iI l)), (2, .int (iI i))] [.ref 25, .int (iI i)] _ _ _ _
    refine pm_e_sim pm_a156_26 rfl ?_
    show pm_E _ _ _ 27 [(0, .ref 18), (1, .int (iI l)), (2, .int (iI i))] [.int (iI l), .ref 25, .int (iI i)] _ _ _ _
    refine pm_i_ald pm_a156_27 (mh_get (j := 7) hA rfl) (by omega) (by omega) ⟨by omega, by omega⟩ ?_
    show pm_E _ _ _ 28 [(0, .ref 18), (1, .int (iI l)), (2, .int (iI i))] [.int (iI ((a 7) (l))), .int (iI i)] _ _ _ _
    refine pm_c_le (t := 51) pm_a156_28 rfl ⟨by omega, by omega⟩ ⟨by omega, by omega⟩ (fun h_1 => ?_) (fun h_1 => ?_)
    · skip
      exfalso; omega
    · skip
      show pm_E _ _ _ 31 [(0, .ref 18), (1, .int (iI l)), (2, .int (iI i))] [] _ _ _ _
      refine pm_e_sim pm_a156_31 rfl ?_
      show pm_E _ _ _ 32 [(0, .ref 18), (1, .int (iI l)), (2, .int (iI i))] [.ref 18] _ _ _ _
      refine pm_i_get pm_a156_32 rfl (mh_get (j := 0) hA rfl) rfl ?_
      show pm_E _ _ _ 35 [(0, .ref 18), (1, .int (iI l)), (2, .int (iI i))] [.ref 22] _ _ _ _
      refine pm_e_sim pm_a156_35 rfl ?_
      show pm_E _ _ _ 36 [(0, .ref 18), (1, .int (iI l)), (2, .int (iI i))] [.int (iI i), .ref 22] _ _ _ _
      refine pm_e_sim pm_a156_36 rfl ?_
      show pm_E _ _ _ 37 [(0, .ref 18), (1, .int (iI l)), (2, .int (iI i))] [.ref 18, .int (iI i), .ref 22] _ _ _ _
      refine pm_i_get pm_a156_37 rfl (mh_get (j := 0) hA rfl) rfl ?_
      show pm_E _ _ _ 40 [(0, .ref 18), (1, .int (iI l)), (2, .int (iI i))] [.ref 22, .int (iI i), .ref 22] _ _ _ _
      refine pm_e_sim pm_a156_40 rfl ?_
      show pm_E _ _ _ 41 [(0, .ref 18), (1, .int (iI l)), (2, .int (iI i))] [.int (iI i), .ref 22, .int (iI i), .ref 22] _ _ _ _
      refine pm_e_sim pm_a156_41 rfl ?_
      refine pm_e_top (y := iI 1) (by decide +kernel) ?_
      show pm_E _ _ _ 42 [(0, .ref 18), (1, .int (iI l)), (2, .int (iI i))] [.int (iI 1), .int (iI i), .ref 22, .int (iI i), .ref 22] _ _ _ _
      refine pm_e_sim pm_a156_42 rfl ?_
      refine pm_e_top (y := iI (i - 1)) (iI_sub _ _) ?_
      show pm_E _ _ _ 43 [(0, .ref 18), (1, .int (iI l)), (2, .int (iI i))] [.int (iI (i - 1)), .ref 22, .int (iI i), .ref 22] _ _ _ _
      refine pm_i_ald pm_a156_43 (mh_get (j := 4) hA rfl) (by omega) (by omega) ⟨by omega, by omega⟩ ?_
      show pm_E _ _ _ 44 [(0, .ref 18), (1, .int (iI l)), (2, .int (iI i))] [.int (iI ((g) (i - 1))), .int (iI i), .ref 22] _ _ _ _
      refine pm_i_ast pm_a156_44 (mh_get (j := 4) hA rfl) (by omega) (by omega) ⟨by omega, by omega⟩ ((ma_4 hA _).trans (congrArg (fun z => mh A _ _ z _ B) (updA_s))) ?_
      show pm_E _ _ _ 45 [(0, .ref 18), (1, .int (iI l)), (2, .int (iI i))] [] _ _ _ _
      refine pm_e_inc (y := iI (i + (-1))) pm_a156_45 rfl (iI_add _ _) (by decide +kernel) rfl ?_
      show pm_E _ _ _ 48 [(0, .ref 18), (1, .int (iI l)), (2, .int (iI (i + (-1))))] [] _ _ _ _
      refine pm_e_goto pm_a156_48 rfl ?_
      show pm_E _ _ _ 21 [(0, .ref 18), (1, .int (iI l)), (2, .int (iI (i + (-1))))] [] _ _ _ _
      rw [← mvI_step (by omega)] at k
      exact ih (i + (-1)) _ (by omega) (by omega) k
