/-! THE REFERENCE: part, hasNaught, addAll, addLess -/
set_option maxHeartbeats 4000000 in
set_option maxRecDepth 100000 in
theorem M_part_t {d : Nat} {A B : List va_E} {s : Nat → Int} {vl : Int64} {a : Nat → Int → Int} {nm : Nat → Int64} {Q : Option Value → List va_E → Nat → Nat → Prop} {l i : Int} {g : Int → Int} (hA : A.length = 18) (hl0 : 0 ≤ l) (hl1 : l < 90) (hb0 : 0 ≤ a 7 l) (hb1 : a 7 l < 12000) (k : Q none (mh A (updS s 6 (s 6 + 1)) vl (updA (updA a 4 (updI g (a 7 l) 0)) 8 (updI (a 8) l 1)) nm B) 0 0) : pm_E none d pm_mm156 51 [(0, .ref 18), (1, .int (iI l)), (2, .int (iI i))] [] (mh A s vl (updA a 4 g) nm B) 0 0 Q := by
  refine pm_e_sim pm_a156_51 rfl ?_
  show pm_E _ _ _ 52 [(0, .ref 18), (1, .int (iI l)), (2, .int (iI i))] [.ref 18] _ _ _ _
  refine pm_i_get pm_a156_52 rfl (mh_get (j := 0) hA rfl) rfl ?_
  show pm_E _ _ _ 55 [(0, .ref 18), (1, .int (iI l)), (2, .int (iI i))] [.ref 22] _ _ _ _
  refine pm_e_sim pm_a156_55 rfl ?_
  show pm_E _ _ _ 56 [(0, .ref 18), (1, .int (iI l)), (2, .int (iI i))] [.ref 18, .ref 22] _ _ _ _
  refine pm_i_get pm_a156_56 rfl (mh_get (j := 0) hA rfl) rfl ?_
  show pm_E _ _ _ 59 [(0, .ref 18), (1, .int (iI l)), (2, .int (iI i))] [.ref 25, .ref 22] _ _ _ _
  refine pm_e_sim pm_a156_59 rfl ?_
  show pm_E _ _ _ 60 [(0, .ref 18), (1, .int (iI l)), (2, .int (iI i))] [.int (iI l), .ref 25, .ref 22] _ _ _ _
  refine pm_i_ald pm_a156_60 (mh_get (j := 7) hA rfl) (by omega) (by omega) ⟨by omega, by omega⟩ ?_
  show pm_E _ _ _ 61 [(0, .ref 18), (1, .int (iI l)), (2, .int (iI i))] [.int (iI ((a 7) (l))), .ref 22] _ _ _ _
  refine pm_e_sim pm_a156_61 rfl ?_
  refine pm_e_top (y := iI 0) (by decide +kernel) ?_
  show pm_E _ _ _ 62 [(0, .ref 18), (1, .int (iI l)), (2, .int (iI i))] [.int (iI 0), .int (iI ((a 7) (l))), .ref 22] _ _ _ _
  refine pm_i_ast pm_a156_62 (mh_get (j := 4) hA rfl) (by omega) (by omega) ⟨by omega, by omega⟩ ((ma_4 hA _).trans (congrArg (fun z => mh A _ _ z _ B) (updA_s))) ?_
  show pm_E _ _ _ 63 [(0, .ref 18), (1, .int (iI l)), (2, .int (iI i))] [] _ _ _ _
  refine pm_e_sim pm_a156_63 rfl ?_
  show pm_E _ _ _ 64 [(0, .ref 18), (1, .int (iI l)), (2, .int (iI i))] [.ref 18] _ _ _ _
  refine pm_e_sim pm_a156_64 rfl ?_
  show pm_E _ _ _ 65 [(0, .ref 18), (1, .int (iI l)), (2, .int (iI i))] [.ref 18, .ref 18] _ _ _ _
  refine pm_i_get pm_a156_65 rfl (mh_get (j := 0) hA rfl) rfl ?_
  show pm_E _ _ _ 68 [(0, .ref 18), (1, .int (iI l)), (2, .int (iI i))] [.int (iI (s 6)), .ref 18] _ _ _ _
  refine pm_e_sim pm_a156_68 rfl ?_
  refine pm_e_top (y := iI 1) (by decide +kernel) ?_
  show pm_E _ _ _ 69 [(0, .ref 18), (1, .int (iI l)), (2, .int (iI i))] [.int (iI 1), .int (iI (s 6)), .ref 18] _ _ _ _
  refine pm_e_sim pm_a156_69 rfl ?_
  refine pm_e_top (y := iI (s 6 + 1)) (iI_add _ _) ?_
  show pm_E _ _ _ 70 [(0, .ref 18), (1, .int (iI l)), (2, .int (iI i))] [.int (iI (s 6 + 1)), .ref 18] _ _ _ _
  refine pm_i_put pm_a156_70 rfl (mh_get (j := 0) hA rfl) rfl (Nat.le_of_ble_eq_true rfl) (Or.inl rfl) (mw_6 hA _) ?_
  show pm_E _ _ _ 73 [(0, .ref 18), (1, .int (iI l)), (2, .int (iI i))] [] _ _ _ _
  refine pm_e_sim pm_a156_73 rfl ?_
  show pm_E _ _ _ 74 [(0, .ref 18), (1, .int (iI l)), (2, .int (iI i))] [.ref 18] _ _ _ _
  refine pm_i_get pm_a156_74 rfl (mh_get (j := 0) hA rfl) rfl ?_
  show pm_E _ _ _ 77 [(0, .ref 18), (1, .int (iI l)), (2, .int (iI i))] [.ref 26] _ _ _ _
  refine pm_e_sim pm_a156_77 rfl ?_
  show pm_E _ _ _ 78 [(0, .ref 18), (1, .int (iI l)), (2, .int (iI i))] [.int (iI l), .ref 26] _ _ _ _
  refine pm_e_sim pm_a156_78 rfl ?_
  refine pm_e_top (y := iI 1) (by decide +kernel) ?_
  show pm_E _ _ _ 79 [(0, .ref 18), (1, .int (iI l)), (2, .int (iI i))] [.int (iI 1), .int (iI l), .ref 26] _ _ _ _
  refine pm_i_bst pm_a156_79 (mh_get (j := 8) hA rfl) (by omega) (by omega) ⟨by omega, by omega⟩ (by decide +kernel) (ma_8 hA _) ?_
  show pm_E _ _ _ 80 [(0, .ref 18), (1, .int (iI l)), (2, .int (iI i))] [] _ _ _ _
  refine pm_e_ret pm_a156_80 rfl rfl rfl rfl rfl rfl rfl rfl ?_
  exact k
set_option maxHeartbeats 4000000 in
set_option maxRecDepth 100000 in
theorem M_part {d : Nat} {A B : List va_E} {s : Nat → Int} {vl : Int64} {a : Nat → Int → Int} {nm : Nat → Int64} {Q : Option Value → List va_E → Nat → Nat → Prop} (hA : A.length = 18) (h0 : 1 ≤ s 18) (h1 : s 18 ≤ 90) (hb0 : 0 ≤ a 7 (s 18 - 1)) (hb1 : a 7 (s 18 - 1) ≤ s 6) (h6 : s 6 < 12000) (hh : in32 (a 8 (s 18 - 1))) (k1 : a 8 (s 18 - 1) = 0 → Q none (mh A s vl (updA a 8 (updI (a 8) (s 18 - 1) 1)) nm B) 0 0) (k2 : a 8 (s 18 - 1) ≠ 0 → Q none (mh A (updS s 6 (s 6 + 1)) vl (updA (updA a 4 (updI (mvI (a 4) (a 7 (s 18 - 1)) (s 6)) (a 7 (s 18 - 1)) 0)) 8 (updI (a 8) (s 18 - 1) 1)) nm B) 0 0) : pm_E none d pm_mm156 0 [(0, .ref 18)] [] (mh A s vl a nm B) 0 0 Q := by
  refine pm_e_sim pm_a156_0 rfl ?_
  show pm_E _ _ _ 1 [(0, .ref 18)] [.ref 18] _ _ _ _
  refine pm_i_get pm_a156_1 rfl (mh_get (j := 0) hA rfl) rfl ?_
  show pm_E _ _ _ 4 [(0, .ref 18)] [.int (iI (s 18))] _ _ _ _
  refine pm_e_sim pm_a156_4 rfl ?_
  refine pm_e_top (y := iI 1) (by decide +kernel) ?_
  show pm_E _ _ _ 5 [(0, .ref 18)] [.int (iI 1), .int (iI (s 18))] _ _ _ _
  refine pm_e_sim pm_a156_5 rfl ?_
  refine pm_e_top (y := iI (s 18 - 1)) (iI_sub _ _) ?_
  show pm_E _ _ _ 6 [(0, .ref 18)] [.int (iI (s 18 - 1))] _ _ _ _
  refine pm_e_sim pm_a156_6 rfl ?_
  show pm_E _ _ _ 7 [(0, .ref 18), (1, .int (iI (s 18 - 1)))] [] _ _ _ _
  refine pm_e_sim pm_a156_7 rfl ?_
  show pm_E _ _ _ 8 [(0, .ref 18), (1, .int (iI (s 18 - 1)))] [.ref 18] _ _ _ _
  refine pm_i_get pm_a156_8 rfl (mh_get (j := 0) hA rfl) rfl ?_
  show pm_E _ _ _ 11 [(0, .ref 18), (1, .int (iI (s 18 - 1)))] [.ref 26] _ _ _ _
  refine pm_e_sim pm_a156_11 rfl ?_
  show pm_E _ _ _ 12 [(0, .ref 18), (1, .int (iI (s 18 - 1)))] [.int (iI (s 18 - 1)), .ref 26] _ _ _ _
  refine pm_i_bld pm_a156_12 (mh_get (j := 8) hA rfl) (by omega) (by omega) ⟨by omega, by omega⟩ ?_
  show pm_E _ _ _ 13 [(0, .ref 18), (1, .int (iI (s 18 - 1)))] [.int (iI ((a 8) (s 18 - 1)))] _ _ _ _
  refine pm_i_eq (t := 73) pm_a156_13 rfl ⟨by omega, by omega⟩ (fun h_1 => ?_) (fun h_1 => ?_)
  · skip
    show pm_E _ _ _ 73 [(0, .ref 18), (1, .int (iI (s 18 - 1)))] [] _ _ _ _
    refine pm_e_sim pm_a156_73 rfl ?_
    show pm_E _ _ _ 74 [(0, .ref 18), (1, .int (iI (s 18 - 1)))] [.ref 18] _ _ _ _
    refine pm_i_get pm_a156_74 rfl (mh_get (j := 0) hA rfl) rfl ?_
    show pm_E _ _ _ 77 [(0, .ref 18), (1, .int (iI (s 18 - 1)))] [.ref 26] _ _ _ _
    refine pm_e_sim pm_a156_77 rfl ?_
    show pm_E _ _ _ 78 [(0, .ref 18), (1, .int (iI (s 18 - 1)))] [.int (iI (s 18 - 1)), .ref 26] _ _ _ _
    refine pm_e_sim pm_a156_78 rfl ?_
    refine pm_e_top (y := iI 1) (by decide +kernel) ?_
    show pm_E _ _ _ 79 [(0, .ref 18), (1, .int (iI (s 18 - 1)))] [.int (iI 1), .int (iI (s 18 - 1)), .ref 26] _ _ _ _
    refine pm_i_bst pm_a156_79 (mh_get (j := 8) hA rfl) (by omega) (by omega) ⟨by omega, by omega⟩ (by decide +kernel) (ma_8 hA _) ?_
    show pm_E _ _ _ 80 [(0, .ref 18), (1, .int (iI (s 18 - 1)))] [] _ _ _ _
    refine pm_e_ret pm_a156_80 rfl rfl rfl rfl rfl rfl rfl rfl ?_
    exact k1 (by omega)
  · skip
    show pm_E _ _ _ 16 [(0, .ref 18), (1, .int (iI (s 18 - 1)))] [] _ _ _ _
    refine pm_e_sim pm_a156_16 rfl ?_
    show pm_E _ _ _ 17 [(0, .ref 18), (1, .int (iI (s 18 - 1)))] [.ref 18] _ _ _ _
    refine pm_i_get pm_a156_17 rfl (mh_get (j := 0) hA rfl) rfl ?_
    show pm_E _ _ _ 20 [(0, .ref 18), (1, .int (iI (s 18 - 1)))] [.int (iI (s 6))] _ _ _ _
    refine pm_e_sim pm_a156_20 rfl ?_
    show pm_E _ _ _ 21 [(0, .ref 18), (1, .int (iI (s 18 - 1))), (2, .int (iI (s 6)))] [] _ _ _ _
    refine pm_e_heap (show mh A s vl a nm B = mh A s vl (updA a 4 (a 4)) nm B from by rw [updA_self]) ?_
    refine M_part_l hA (by omega) (by omega) hb0 (s 6 - a 7 (s 18 - 1)).toNat (s 6) _ (by omega) (by omega) (fun i2 => ?_)
    exact M_part_t hA (by omega) (by omega) hb0 (by omega) (k2 (by omega))
