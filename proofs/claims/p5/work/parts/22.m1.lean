/-! THE REFERENCE: put, feed -/
/-- a byte of a number, as the reference takes it -/
def mB (x : Int) (sh : Int) : Int := ((iI x >>> (iI sh &&& 31)) &&& iI 255).toInt
def mP (g : Int → Int) (n x : Int) : Int → Int := updI (updI (updI (updI g n (mB x 24)) (n + 1) (mB x 16)) (n + 1 + 1) (mB x 8)) (n + 1 + 1 + 1) (mB x 0)
set_option maxHeartbeats 4000000 in
set_option maxRecDepth 100000 in
theorem M_put {d : Nat} {A B : List va_E} {s : Nat → Int} {vl : Int64} {a : Nat → Int → Int} {nm : Nat → Int64} {Q : Option Value → List va_E → Nat → Nat → Prop} {x : Int} (hA : A.length = 18) (h0 : 0 ≤ s 4) (h1 : s 4 + 4 ≤ 600) (k : ∀ s' a', s' = updS s 4 (s 4 + 4) → a' = updA a 3 (mP (a 3) (s 4) x) → Q none (mh A s' vl a' nm B) 0 0) : pm_E none d pm_mm145 0 [(0, .ref 18), (1, .int (iI x))] [] (mh A s vl a nm B) 0 0 Q := by
  refine pm_e_sim pm_a145_0 rfl ?_
  refine pm_e_top (y := iI 24) (by decide +kernel) ?_
  show pm_E _ _ _ 2 [(0, .ref 18), (1, .int (iI x))] [.int (iI 24)] _ _ _ _
  refine pm_e_sim pm_a145_2 rfl ?_
  show pm_E _ _ _ 3 [(0, .ref 18), (1, .int (iI x)), (2, .int (iI 24))] [] _ _ _ _
  refine pm_e_sim pm_a145_3 rfl ?_
  show pm_E _ _ _ 4 [(0, .ref 18), (1, .int (iI x)), (2, .int (iI 24))] [.int (iI 24)] _ _ _ _
  refine pm_e_iff pm_a145_4 rfl (by decide +kernel) ?_
  show pm_E _ _ _ 7 [(0, .ref 18), (1, .int (iI x)), (2, .int (iI 24))] [] _ _ _ _
  refine pm_e_sim pm_a145_7 rfl ?_
  show pm_E _ _ _ 8 [(0, .ref 18), (1, .int (iI x)), (2, .int (iI 24))] [.ref 18] _ _ _ _
  refine pm_i_get pm_a145_8 rfl (mh_get (j := 0) hA rfl) rfl ?_
  show pm_E _ _ _ 11 [(0, .ref 18), (1, .int (iI x)), (2, .int (iI 24))] [.ref 21] _ _ _ _
  refine pm_e_sim pm_a145_11 rfl ?_
  show pm_E _ _ _ 12 [(0, .ref 18), (1, .int (iI x)), (2, .int (iI 24))] [.ref 18, .ref 21] _ _ _ _
  refine pm_i_get pm_a145_12 rfl (mh_get (j := 0) hA rfl) rfl ?_
  show pm_E _ _ _ 15 [(0, .ref 18), (1, .int (iI x)), (2, .int (iI 24))] [.int (iI (s 4)), .ref 21] _ _ _ _
  refine pm_e_sim pm_a145_15 rfl ?_
  show pm_E _ _ _ 16 [(0, .ref 18), (1, .int (iI x)), (2, .int (iI 24))] [.int (iI x), .int (iI (s 4)), .ref 21] _ _ _ _
  refine pm_e_sim pm_a145_16 rfl ?_
  show pm_E _ _ _ 17 [(0, .ref 18), (1, .int (iI x)), (2, .int (iI 24))] [.int (iI 24), .int (iI x), .int (iI (s 4)), .ref 21] _ _ _ _
  refine pm_e_sim pm_a145_17 rfl ?_
  show pm_E _ _ _ 18 [(0, .ref 18), (1, .int (iI x)), (2, .int (iI 24))] [.int (iI (x) >>> (iI 24 &&& 31)), .int (iI (s 4)), .ref 21] _ _ _ _
  refine pm_e_sim pm_a145_18 rfl ?_
  refine pm_e_top (y := iI 255) (by decide +kernel) ?_
  show pm_E _ _ _ 21 [(0, .ref 18), (1, .int (iI x)), (2, .int (iI 24))] [.int (iI 255), .int (iI (x) >>> (iI 24 &&& 31)), .int (iI (s 4)), .ref 21] _ _ _ _
  refine pm_e_sim pm_a145_21 rfl ?_
  refine pm_e_top (y := iI (((iI (x) >>> (iI 24 &&& 31)) &&& iI 255).toInt)) (iI_of _).symm ?_
  show pm_E _ _ _ 22 [(0, .ref 18), (1, .int (iI x)), (2, .int (iI 24))] [.int (iI (((iI (x) >>> (iI 24 &&& 31)) &&& iI 255).toInt)), .int (iI (s 4)), .ref 21] _ _ _ _
  refine pm_i_ast pm_a145_22 (mh_get (j := 3) hA rfl) (by omega) (by omega) ⟨by omega, by omega⟩ (ma_3 hA _) ?_
  show pm_E _ _ _ 23 [(0, .ref 18), (1, .int (iI x)), (2, .int (iI 24))] [] _ _ _ _
  refine pm_e_sim pm_a145_23 rfl ?_
  show pm_E _ _ _ 24 [(0, .ref 18), (1, .int (iI x)), (2, .int (iI 24))] [.ref 18] _ _ _ _
  refine pm_e_sim pm_a145_24 rfl ?_
  show pm_E _ _ _ 25 [(0, .ref 18), (1, .int (iI x)), (2, .int (iI 24))] [.ref 18, .ref 18] _ _ _ _
  refine pm_i_get pm_a145_25 rfl (mh_get (j := 0) hA rfl) rfl ?_
  show pm_E _ _ _ 28 [(0, .ref 18), (1, .int (iI x)), (2, .int (iI 24))] [.int (iI (s 4)), .ref 18] _ _ _ _
  refine pm_e_sim pm_a145_28 rfl ?_
  refine pm_e_top (y := iI 1) (by decide +kernel) ?_
  show pm_E _ _ _ 29 [(0, .ref 18), (1, .int (iI x)), (2, .int (iI 24))] [.int (iI 1), .int (iI (s 4)), .ref 18] _ _ _ _
  refine pm_e_sim pm_a145_29 rfl ?_
  refine pm_e_top (y := iI (s 4 + 1)) (iI_add _ _) ?_
  show pm_E _ _ _ 30 [(0, .ref 18), (1, .int (iI x)), (2, .int (iI 24))] [.int (iI (s 4 + 1)), .ref 18] _ _ _ _
  refine pm_i_put pm_a145_30 rfl (mh_get (j := 0) hA rfl) rfl (Nat.le_of_ble_eq_true rfl) (Or.inl rfl) (mw_4 hA _) ?_
  show pm_E _ _ _ 33 [(0, .ref 18), (1, .int (iI x)), (2, .int (iI 24))] [] _ _ _ _
  refine pm_e_inc (y := iI 16) pm_a145_33 rfl (by decide +kernel) (by decide +kernel) rfl ?_
  show pm_E _ _ _ 36 [(0, .ref 18), (1, .int (iI x)), (2, .int (iI 16))] [] _ _ _ _
  refine pm_e_goto pm_a145_36 rfl ?_
  show pm_E _ _ _ 3 [(0, .ref 18), (1, .int (iI x)), (2, .int (iI 16))] [] _ _ _ _
  refine pm_e_sim pm_a145_3 rfl ?_
  show pm_E _ _ _ 4 [(0, .ref 18), (1, .int (iI x)), (2, .int (iI 16))] [.int (iI 16)] _ _ _ _
  refine pm_e_iff pm_a145_4 rfl (by decide +kernel) ?_
  show pm_E _ _ _ 7 [(0, .ref 18), (1, .int (iI x)), (2, .int (iI 16))] [] _ _ _ _
  refine pm_e_sim pm_a145_7 rfl ?_
  show pm_E _ _ _ 8 [(0, .ref 18), (1, .int (iI x)), (2, .int (iI 16))] [.ref 18] _ _ _ _
  refine pm_i_get pm_a145_8 rfl (mh_get (j := 0) hA rfl) rfl ?_
  show pm_E _ _ _ 11 [(0, .ref 18), (1, .int (iI x)), (2, .int (iI 16))] [.ref 21] _ _ _ _
  refine pm_e_sim pm_a145_11 rfl ?_
  show pm_E _ _ _ 12 [(0, .ref 18), (1, .int (iI x)), (2, .int (iI 16))] [.ref 18, .ref 21] _ _ _ _
  refine pm_i_get pm_a145_12 rfl (mh_get (j := 0) hA rfl) rfl ?_
  show pm_E _ _ _ 15 [(0, .ref 18), (1, .int (iI x)), (2, .int (iI 16))] [.int (iI (s 4 + 1)), .ref 21] _ _ _ _
  refine pm_e_sim pm_a145_15 rfl ?_
  show pm_E _ _ _ 16 [(0, .ref 18), (1, .int (iI x)), (2, .int (iI 16))] [.int (iI x), .int (iI (s 4 + 1)), .ref 21] _ _ _ _
  refine pm_e_sim pm_a145_16 rfl ?_
  show pm_E _ _ _ 17 [(0, .ref 18), (1, .int (iI x)), (2, .int (iI 16))] [.int (iI 16), .int (iI x), .int (iI (s 4 + 1)), .ref 21] _ _ _ _
  refine pm_e_sim pm_a145_17 rfl ?_
  show pm_E _ _ _ 18 [(0, .ref 18), (1, .int (iI x)), (2, .int (iI 16))] [.int (iI (x) >>> (iI 16 &&& 31)), .int (iI (s 4 + 1)), .ref 21] _ _ _ _
  refine pm_e_sim pm_a145_18 rfl ?_
  refine pm_e_top (y := iI 255) (by decide +kernel) ?_
  show pm_E _ _ _ 21 [(0, .ref 18), (1, .int (iI x)), (2, .int (iI 16))] [.int (iI 255), .int (iI (x) >>> (iI 16 &&& 31)), .int (iI (s 4 + 1)), .ref 21] _ _ _ _
  refine pm_e_sim pm_a145_21 rfl ?_
  refine pm_e_top (y := iI (((iI (x) >>> (iI 16 &&& 31)) &&& iI 255).toInt)) (iI_of _).symm ?_
  show pm_E _ _ _ 22 [(0, .ref 18), (1, .int (iI x)), (2, .int (iI 16))] [.int (iI (((iI (x) >>> (iI 16 &&& 31)) &&& iI 255).toInt)), .int (iI (s 4 + 1)), .ref 21] _ _ _ _
  refine pm_i_ast pm_a145_22 (mh_get (j := 3) hA rfl) (by omega) (by omega) ⟨by omega, by omega⟩ (ma_3 hA _) ?_
  show pm_E _ _ _ 23 [(0, .ref 18), (1, .int (iI x)), (2, .int (iI 16))] [] _ _ _ _
  refine pm_e_sim pm_a145_23 rfl ?_
  show pm_E _ _ _ 24 [(0, .ref 18), (1, .int (iI x)), (2, .int (iI 16))] [.ref 18] _ _ _ _
  refine pm_e_sim pm_a145_24 rfl ?_
  show pm_E _ _ _ 25 [(0, .ref 18), (1, .int (iI x)), (2, .int (iI 16))] [.ref 18, .ref 18] _ _ _ _
  refine pm_i_get pm_a145_25 rfl (mh_get (j := 0) hA rfl) rfl ?_
  show pm_E _ _ _ 28 [(0, .ref 18), (1, .int (iI x)), (2, .int (iI 16))] [.int (iI (s 4 + 1)), .ref 18] _ _ _ _
  refine pm_e_sim pm_a145_28 rfl ?_
  refine pm_e_top (y := iI 1) (by decide +kernel) ?_
  show pm_E _ _ _ 29 [(0, .ref 18), (1, .int (iI x)), (2, .int (iI 16))] [.int (iI 1), .int (iI (s 4 + 1)), .ref 18] _ _ _ _
  refine pm_e_sim pm_a145_29 rfl ?_
  refine pm_e_top (y := iI (s 4 + 1 + 1)) (iI_add _ _) ?_
  show pm_E _ _ _ 30 [(0, .ref 18), (1, .int (iI x)), (2, .int (iI 16))] [.int (iI (s 4 + 1 + 1)), .ref 18] _ _ _ _
  refine pm_i_put pm_a145_30 rfl (mh_get (j := 0) hA rfl) rfl (Nat.le_of_ble_eq_true rfl) (Or.inl rfl) (mw_4 hA _) ?_
  show pm_E _ _ _ 33 [(0, .ref 18), (1, .int (iI x)), (2, .int (iI 16))] [] _ _ _ _
  refine pm_e_inc (y := iI 8) pm_a145_33 rfl (by decide +kernel) (by decide +kernel) rfl ?_
  show pm_E _ _ _ 36 [(0, .ref 18), (1, .int (iI x)), (2, .int (iI 8))] [] _ _ _ _
  refine pm_e_goto pm_a145_36 rfl ?_
  show pm_E _ _ _ 3 [(0, .ref 18), (1, .int (iI x)), (2, .int (iI 8))] [] _ _ _ _
  refine pm_e_sim pm_a145_3 rfl ?_
  show pm_E _ _ _ 4 [(0, .ref 18), (1, .int (iI x)), (2, .int (iI 8))] [.int (iI 8)] _ _ _ _
  refine pm_e_iff pm_a145_4 rfl (by decide +kernel) ?_
  show pm_E _ _ _ 7 [(0, .ref 18), (1, .int (iI x)), (2, .int (iI 8))] [] _ _ _ _
  refine pm_e_sim pm_a145_7 rfl ?_
  show pm_E _ _ _ 8 [(0, .ref 18), (1, .int (iI x)), (2, .int (iI 8))] [.ref 18] _ _ _ _
  refine pm_i_get pm_a145_8 rfl (mh_get (j := 0) hA rfl) rfl ?_
  show pm_E _ _ _ 11 [(0, .ref 18), (1, .int (iI x)), (2, .int (iI 8))] [.ref 21] _ _ _ _
  refine pm_e_sim pm_a145_11 rfl ?_
  show pm_E _ _ _ 12 [(0, .ref 18), (1, .int (iI x)), (2, .int (iI 8))] [.ref 18, .ref 21] _ _ _ _
  refine pm_i_get pm_a145_12 rfl (mh_get (j := 0) hA rfl) rfl ?_
  show pm_E _ _ _ 15 [(0, .ref 18), (1, .int (iI x)), (2, .int (iI 8))] [.int (iI (s 4 + 1 + 1)), .ref 21] _ _ _ _
  refine pm_e_sim pm_a145_15 rfl ?_
  show pm_E _ _ _ 16 [(0, .ref 18), (1, .int (iI x)), (2, .int (iI 8))] [.int (iI x), .int (iI (s 4 + 1 + 1)), .ref 21] _ _ _ _
  refine pm_e_sim pm_a145_16 rfl ?_
  show pm_E _ _ _ 17 [(0, .ref 18), (1, .int (iI x)), (2, .int (iI 8))] [.int (iI 8), .int (iI x), .int (iI (s 4 + 1 + 1)), .ref 21] _ _ _ _
  refine pm_e_sim pm_a145_17 rfl ?_
  show pm_E _ _ _ 18 [(0, .ref 18), (1, .int (iI x)), (2, .int (iI 8))] [.int (iI (x) >>> (iI 8 &&& 31)), .int (iI (s 4 + 1 + 1)), .ref 21] _ _ _ _
  refine pm_e_sim pm_a145_18 rfl ?_
  refine pm_e_top (y := iI 255) (by decide +kernel) ?_
  show pm_E _ _ _ 21 [(0, .ref 18), (1, .int (iI x)), (2, .int (iI 8))] [.int (iI 255), .int (iI (x) >>> (iI 8 &&& 31)), .int (iI (s 4 + 1 + 1)), .ref 21] _ _ _ _
  refine pm_e_sim pm_a145_21 rfl ?_
  refine pm_e_top (y := iI (((iI (x) >>> (iI 8 &&& 31)) &&& iI 255).toInt)) (iI_of _).symm ?_
  show pm_E _ _ _ 22 [(0, .ref 18), (1, .int (iI x)), (2, .int (iI 8))] [.int (iI (((iI (x) >>> (iI 8 &&& 31)) &&& iI 255).toInt)), .int (iI (s 4 + 1 + 1)), .ref 21] _ _ _ _
  refine pm_i_ast pm_a145_22 (mh_get (j := 3) hA rfl) (by omega) (by omega) ⟨by omega, by omega⟩ (ma_3 hA _) ?_
  show pm_E _ _ _ 23 [(0, .ref 18), (1, .int (iI x)), (2, .int (iI 8))] [] _ _ _ _
  refine pm_e_sim pm_a145_23 rfl ?_
  show pm_E _ _ _ 24 [(0, .ref 18), (1, .int (iI x)), (2, .int (iI 8))] [.ref 18] _ _ _ _
  refine pm_e_sim pm_a145_24 rfl ?_
  show pm_E _ _ _ 25 [(0, .ref 18), (1, .int (iI x)), (2, .int (iI 8))] [.ref 18, .ref 18] _ _ _ _
  refine pm_i_get pm_a145_25 rfl (mh_get (j := 0) hA rfl) rfl ?_
  show pm_E _ _ _ 28 [(0, .ref 18), (1, .int (iI x)), (2, .int (iI 8))] [.int (iI (s 4 + 1 + 1)), .ref 18] _ _ _ _
  refine pm_e_sim pm_a145_28 rfl ?_
  refine pm_e_top (y := iI 1) (by decide +kernel) ?_
  show pm_E _ _ _ 29 [(0, .ref 18), (1, .int (iI x)), (2, .int (iI 8))] [.int (iI 1), .int (iI (s 4 + 1 + 1)), .ref 18] _ _ _ _
  refine pm_e_sim pm_a145_29 rfl ?_
  refine pm_e_top (y := iI (s 4 + 1 + 1 + 1)) (iI_add _ _) ?_
  show pm_E _ _ _ 30 [(0, .ref 18), (1, .int (iI x)), (2, .int (iI 8))] [.int (iI (s 4 + 1 + 1 + 1)), .ref 18] _ _ _ _
  refine pm_i_put pm_a145_30 rfl (mh_get (j := 0) hA rfl) rfl (Nat.le_of_ble_eq_true rfl) (Or.inl rfl) (mw_4 hA _) ?_
  show pm_E _ _ _ 33 [(0, .ref 18), (1, .int (iI x)), (2, .int (iI 8))] [] _ _ _ _
  refine pm_e_inc (y := iI 0) pm_a145_33 rfl (by decide +kernel) (by decide +kernel) rfl ?_
  show pm_E _ _ _ 36 [(0, .ref 18), (1, .int (iI x)), (2, .int (iI 0))] [] _ _ _ _
  refine pm_e_goto pm_a145_36 rfl ?_
  show pm_E _ _ _ 3 [(0, .ref 18), (1, .int (iI x)), (2, .int (iI 0))] [] _ _ _ _
  refine pm_e_sim pm_a145_3 rfl ?_
  show pm_E _ _ _ 4 [(0, .ref 18), (1, .int (iI x)), (2, .int (iI 0))] [.int (iI 0)] _ _ _ _
  refine pm_e_iff pm_a145_4 rfl (by decide +kernel) ?_
  show pm_E _ _ _ 7 [(0, .ref 18), (1, .int (iI x)), (2, .int (iI 0))] [] _ _ _ _
  refine pm_e_sim pm_a145_7 rfl ?_
  show pm_E _ _ _ 8 [(0, .ref 18), (1, .int (iI x)), (2, .int (iI 0))] [.ref 18] _ _ _ _
  refine pm_i_get pm_a145_8 rfl (mh_get (j := 0) hA rfl) rfl ?_
  show pm_E _ _ _ 11 [(0, .ref 18), (1, .int (iI x)), (2, .int (iI 0))] [.ref 21] _ _ _ _
  refine pm_e_sim pm_a145_11 rfl ?_
  show pm_E _ _ _ 12 [(0, .ref 18), (1, .int (iI x)), (2, .int (iI 0))] [.ref 18, .ref 21] _ _ _ _
  refine pm_i_get pm_a145_12 rfl (mh_get (j := 0) hA rfl) rfl ?_
  show pm_E _ _ _ 15 [(0, .ref 18), (1, .int (iI x)), (2, .int (iI 0))] [.int (iI (s 4 + 1 + 1 + 1)), .ref 21] _ _ _ _
  refine pm_e_sim pm_a145_15 rfl ?_
  show pm_E _ _ _ 16 [(0, .ref 18), (1, .int (iI x)), (2, .int (iI 0))] [.int (iI x), .int (iI (s 4 + 1 + 1 + 1)), .ref 21] _ _ _ _
  refine pm_e_sim pm_a145_16 rfl ?_
  show pm_E _ _ _ 17 [(0, .ref 18), (1, .int (iI x)), (2, .int (iI 0))] [.int (iI 0), .int (iI x), .int (iI (s 4 + 1 + 1 + 1)), .ref 21] _ _ _ _
  refine pm_e_sim pm_a145_17 rfl ?_
  show pm_E _ _ _ 18 [(0, .ref 18), (1, .int (iI x)), (2, .int (iI 0))] [.int (iI (x) >>> (iI 0 &&& 31)), .int (iI (s 4 + 1 + 1 + 1)), .ref 21] _ _ _ _
  refine pm_e_sim pm_a145_18 rfl ?_
  refine pm_e_top (y := iI 255) (by decide +kernel) ?_
  show pm_E _ _ _ 21 [(0, .ref 18), (1, .int (iI x)), (2, .int (iI 0))] [.int (iI 255), .int (iI (x) >>> (iI 0 &&& 31)), .int (iI (s 4 + 1 + 1 + 1)), .ref 21] _ _ _ _
  refine pm_e_sim pm_a145_21 rfl ?_
  refine pm_e_top (y := iI (((iI (x) >>> (iI 0 &&& 31)) &&& iI 255).toInt)) (iI_of _).symm ?_
  show pm_E _ _ _ 22 [(0, .ref 18), (1, .int (iI x)), (2, .int (iI 0))] [.int (iI (((iI (x) >>> (iI 0 &&& 31)) &&& iI 255).toInt)), .int (iI (s 4 + 1 + 1 + 1)), .ref 21] _ _ _ _
  refine pm_i_ast pm_a145_22 (mh_get (j := 3) hA rfl) (by omega) (by omega) ⟨by omega, by omega⟩ (ma_3 hA _) ?_
  show pm_E _ _ _ 23 [(0, .ref 18), (1, .int (iI x)), (2, .int (iI 0))] [] _ _ _ _
  refine pm_e_sim pm_a145_23 rfl ?_
  show pm_E _ _ _ 24 [(0, .ref 18), (1, .int (iI x)), (2, .int (iI 0))] [.ref 18] _ _ _ _
  refine pm_e_sim pm_a145_24 rfl ?_
  show pm_E _ _ _ 25 [(0, .ref 18), (1, .int (iI x)), (2, .int (iI 0))] [.ref 18, .ref 18] _ _ _ _
  refine pm_i_get pm_a145_25 rfl (mh_get (j := 0) hA rfl) rfl ?_
  show pm_E _ _ _ 28 [(0, .ref 18), (1, .int (iI x)), (2, .int (iI 0))] [.int (iI (s 4 + 1 + 1 + 1)), .ref 18] _ _ _ _
  refine pm_e_sim pm_a145_28 rfl ?_
  refine pm_e_top (y := iI 1) (by decide +kernel) ?_
  show pm_E _ _ _ 29 [(0, .ref 18), (1, .int (iI x)), (2, .int (iI 0))] [.int (iI 1), .int (iI (s 4 + 1 + 1 + 1)), .ref 18] _ _ _ _
  refine pm_e_sim pm_a145_29 rfl ?_
  refine pm_e_top (y := iI (s 4 + 1 + 1 + 1 + 1)) (iI_add _ _) ?_
  show pm_E _ _ _ 30 [(0, .ref 18), (1, .int (iI x)), (2, .int (iI 0))] [.int (iI (s 4 + 1 + 1 + 1 + 1)), .ref 18] _ _ _ _
  refine pm_i_put pm_a145_30 rfl (mh_get (j := 0) hA rfl) rfl (Nat.le_of_ble_eq_true rfl) (Or.inl rfl) (mw_4 hA _) ?_
  show pm_E _ _ _ 33 [(0, .ref 18), (1, .int (iI x)), (2, .int (iI 0))] [] _ _ _ _
  refine pm_e_inc (y := iI (-8)) pm_a145_33 rfl (by decide +kernel) (by decide +kernel) rfl ?_
  show pm_E _ _ _ 36 [(0, .ref 18), (1, .int (iI x)), (2, .int (iI (-8)))] [] _ _ _ _
  refine pm_e_goto pm_a145_36 rfl ?_
  show pm_E _ _ _ 3 [(0, .ref 18), (1, .int (iI x)), (2, .int (iI (-8)))] [] _ _ _ _
  refine pm_e_sim pm_a145_3 rfl ?_
  show pm_E _ _ _ 4 [(0, .ref 18), (1, .int (iI x)), (2, .int (iI (-8)))] [.int (iI (-8))] _ _ _ _
  refine pm_e_ift pm_a145_4 rfl (by decide +kernel) ?_
  show pm_E _ _ _ 39 [(0, .ref 18), (1, .int (iI x)), (2, .int (iI (-8)))] [] _ _ _ _
  refine pm_e_ret pm_a145_39 rfl rfl rfl rfl rfl rfl rfl rfl ?_
  refine k _ _ ?_ ?_
  · funext j; by_cases hj : j = 4 <;> simp [updS, hj] <;> omega
  · funext j; by_cases hj : j = 3
    · subst hj; rfl
    · simp [updA, hj]
def mP5 (g : Int → Int) (n x1 x2 x3 x4 x5 : Int) : Int → Int := mP (mP (mP (mP (mP g n x1) (n + 4) x2) (n + 4 + 4) x3) (n + 4 + 4 + 4) x4) (n + 4 + 4 + 4 + 4) x5
set_option maxHeartbeats 4000000 in
set_option maxRecDepth 100000 in
theorem M_feed {d : Nat} {A B : List va_E} {s : Nat → Int} {vl : Int64} {a : Nat → Int → Int} {nm : Nat → Int64} {Q : Option Value → List va_E → Nat → Nat → Prop} {x1 x2 x3 x4 x5 : Int} (hA : A.length = 18) (h0 : 0 ≤ s 4) (h1 : s 4 ≤ 600) (k1 : 600 < s 4 + 20 → Q (some (.int (iI (-3)))) (mh A s vl a nm B) 0 0) (k2 : s 4 + 20 ≤ 600 → ∀ r s' a', r = s 4 + 20 → s' = updS s 4 (s 4 + 20) → a' = updA a 3 (mP5 (a 3) (s 4) x1 x2 x3 x4 x5) → Q (some (.int (iI r))) (mh A s' vl a' nm B) 0 0) : pm_E none (d + 1) pm_mm144 0 [(0, .ref 18), (1, .int (iI x1)), (2, .int (iI x2)), (3, .int (iI x3)), (4, .int (iI x4)), (5, .int (iI x5))] [] (mh A s vl a nm B) 0 0 Q := by
  refine pm_e_sim pm_a144_0 rfl ?_
  show pm_E _ _ _ 1 [(0, .ref 18), (1, .int (iI x1)), (2, .int (iI x2)), (3, .int (iI x3)), (4, .int (iI x4)), (5, .int (iI x5))] [.ref 18] _ _ _ _
  refine pm_i_get pm_a144_1 rfl (mh_get (j := 0) hA rfl) rfl ?_
  show pm_E _ _ _ 4 [(0, .ref 18), (1, .int (iI x1)), (2, .int (iI x2)), (3, .int (iI x3)), (4, .int (iI x4)), (5, .int (iI x5))] [.int (iI (s 4))] _ _ _ _
  refine pm_e_sim pm_a144_4 rfl ?_
  refine pm_e_top (y := iI 20) (by decide +kernel) ?_
  show pm_E _ _ _ 6 [(0, .ref 18), (1, .int (iI x1)), (2, .int (iI x2)), (3, .int (iI x3)), (4, .int (iI x4)), (5, .int (iI x5))] [.int (iI 20), .int (iI (s 4))] _ _ _ _
  refine pm_e_sim pm_a144_6 rfl ?_
  refine pm_e_top (y := iI (s 4 + 20)) (iI_add _ _) ?_
  show pm_E _ _ _ 7 [(0, .ref 18), (1, .int (iI x1)), (2, .int (iI x2)), (3, .int (iI x3)), (4, .int (iI x4)), (5, .int (iI x5))] [.int (iI (s 4 + 20))] _ _ _ _
  refine pm_e_sim pm_a144_7 rfl ?_
  refine pm_e_top (y := iI 600) (by decide +kernel) ?_
  show pm_E _ _ _ 10 [(0, .ref 18), (1, .int (iI x1)), (2, .int (iI x2)), (3, .int (iI x3)), (4, .int (iI x4)), (5, .int (iI x5))] [.int (iI 600), .int (iI (s 4 + 20))] _ _ _ _
  refine pm_c_le (t := 16) pm_a144_10 rfl ⟨by omega, by omega⟩ ⟨by omega, by omega⟩ (fun h_1 => ?_) (fun h_1 => ?_)
  · skip
    show pm_E _ _ _ 16 [(0, .ref 18), (1, .int (iI x1)), (2, .int (iI x2)), (3, .int (iI x3)), (4, .int (iI x4)), (5, .int (iI x5))] [] _ _ _ _
    refine pm_e_sim pm_a144_16 rfl ?_
    show pm_E _ _ _ 17 [(0, .ref 18), (1, .int (iI x1)), (2, .int (iI x2)), (3, .int (iI x3)), (4, .int (iI x4)), (5, .int (iI x5))] [.ref 18] _ _ _ _
    refine pm_e_sim pm_a144_17 rfl ?_
    show pm_E _ _ _ 18 [(0, .ref 18), (1, .int (iI x1)), (2, .int (iI x2)), (3, .int (iI x3)), (4, .int (iI x4)), (5, .int (iI x5))] [.int (iI x1), .ref 18] _ _ _ _
    refine pm_i_callv (k := 18) (T2 := pm_mm145) pm_a144_18 rfl rfl rfl (mh_get (j := 0) hA rfl) ⟨Nat.le_of_ble_eq_true rfl, Nat.le_of_ble_eq_true rfl, rfl, by decide +kernel⟩ ?_
    show pm_E none _ _ 0 [(0, .ref 18), (1, .int (iI x1))] [] _ _ _ _
    refine M_put hA (by omega) (by omega) (fun s1 a1 e_1 f_1 => ?_)
    have g_1 : s1 4 = s 4 + 4 := by rw [e_1]; simp [updS]
    show pm_E _ _ _ 21 [(0, .ref 18), (1, .int (iI x1)), (2, .int (iI x2)), (3, .int (iI x3)), (4, .int (iI x4)), (5, .int (iI x5))] [] _ _ _ _
    refine pm_e_sim pm_a144_21 rfl ?_
    show pm_E _ _ _ 22 [(0, .ref 18), (1, .int (iI x1)), (2, .int (iI x2)), (3, .int (iI x3)), (4, .int (iI x4)), (5, .int (iI x5))] [.ref 18] _ _ _ _
    refine pm_e_sim pm_a144_22 rfl ?_
    show pm_E _ _ _ 23 [(0, .ref 18), (1, .int (iI x1)), (2, .int (iI x2)), (3, .int (iI x3)), (4, .int (iI x4)), (5, .int (iI x5))] [.int (iI x2), .ref 18] _ _ _ _
    refine pm_i_callv (k := 18) (T2 := pm_mm145) pm_a144_23 rfl rfl rfl (mh_get (j := 0) hA rfl) ⟨Nat.le_of_ble_eq_true rfl, Nat.le_of_ble_eq_true rfl, rfl, by decide +kernel⟩ ?_
    show pm_E none _ _ 0 [(0, .ref 18), (1, .int (iI x2))] [] _ _ _ _
    refine M_put hA (by omega) (by omega) (fun s2 a2 e_2 f_2 => ?_)
    have g_2 : s2 4 = s1 4 + 4 := by rw [e_2]; simp [updS]
    show pm_E _ _ _ 26 [(0, .ref 18), (1, .int (iI x1)), (2, .int (iI x2)), (3, .int (iI x3)), (4, .int (iI x4)), (5, .int (iI x5))] [] _ _ _ _
    refine pm_e_sim pm_a144_26 rfl ?_
    show pm_E _ _ _ 27 [(0, .ref 18), (1, .int (iI x1)), (2, .int (iI x2)), (3, .int (iI x3)), (4, .int (iI x4)), (5, .int (iI x5))] [.ref 18] _ _ _ _
    refine pm_e_sim pm_a144_27 rfl ?_
    show pm_E _ _ _ 28 [(0, .ref 18), (1, .int (iI x1)), (2, .int (iI x2)), (3, .int (iI x3)), (4, .int (iI x4)), (5, .int (iI x5))] [.int (iI x3), .ref 18] _ _ _ _
    refine pm_i_callv (k := 18) (T2 := pm_mm145) pm_a144_28 rfl rfl rfl (mh_get (j := 0) hA rfl) ⟨Nat.le_of_ble_eq_true rfl, Nat.le_of_ble_eq_true rfl, rfl, by decide +kernel⟩ ?_
    show pm_E none _ _ 0 [(0, .ref 18), (1, .int (iI x3))] [] _ _ _ _
    refine M_put hA (by omega) (by omega) (fun s3 a3 e_3 f_3 => ?_)
    have g_3 : s3 4 = s2 4 + 4 := by rw [e_3]; simp [updS]
    show pm_E _ _ _ 31 [(0, .ref 18), (1, .int (iI x1)), (2, .int (iI x2)), (3, .int (iI x3)), (4, .int (iI x4)), (5, .int (iI x5))] [] _ _ _ _
    refine pm_e_sim pm_a144_31 rfl ?_
    show pm_E _ _ _ 32 [(0, .ref 18), (1, .int (iI x1)), (2, .int (iI x2)), (3, .int (iI x3)), (4, .int (iI x4)), (5, .int (iI x5))] [.ref 18] _ _ _ _
    refine pm_e_sim pm_a144_32 rfl ?_
    show pm_E _ _ _ 34 [(0, .ref 18), (1, .int (iI x1)), (2, .int (iI x2)), (3, .int (iI x3)), (4, .int (iI x4)), (5, .int (iI x5))] [.int (iI x4), .ref 18] _ _ _ _
    refine pm_i_callv (k := 18) (T2 := pm_mm145) pm_a144_34 rfl rfl rfl (mh_get (j := 0) hA rfl) ⟨Nat.le_of_ble_eq_true rfl, Nat.le_of_ble_eq_true rfl, rfl, by decide +kernel⟩ ?_
    show pm_E none _ _ 0 [(0, .ref 18), (1, .int (iI x4))] [] _ _ _ _
    refine M_put hA (by omega) (by omega) (fun s4 a4 e_4 f_4 => ?_)
    have g_4 : s4 4 = s3 4 + 4 := by rw [e_4]; simp [updS]
    show pm_E _ _ _ 37 [(0, .ref 18), (1, .int (iI x1)), (2, .int (iI x2)), (3, .int (iI x3)), (4, .int (iI x4)), (5, .int (iI x5))] [] _ _ _ _
    refine pm_e_sim pm_a144_37 rfl ?_
    show pm_E _ _ _ 38 [(0, .ref 18), (1, .int (iI x1)), (2, .int (iI x2)), (3, .int (iI x3)), (4, .int (iI x4)), (5, .int (iI x5))] [.ref 18] _ _ _ _
    refine pm_e_sim pm_a144_38 rfl ?_
    show pm_E _ _ _ 40 [(0, .ref 18), (1, .int (iI x1)), (2, .int (iI x2)), (3, .int (iI x3)), (4, .int (iI x4)), (5, .int (iI x5))] [.int (iI x5), .ref 18] _ _ _ _
    refine pm_i_callv (k := 18) (T2 := pm_mm145) pm_a144_40 rfl rfl rfl (mh_get (j := 0) hA rfl) ⟨Nat.le_of_ble_eq_true rfl, Nat.le_of_ble_eq_true rfl, rfl, by decide +kernel⟩ ?_
    show pm_E none _ _ 0 [(0, .ref 18), (1, .int (iI x5))] [] _ _ _ _
    refine M_put hA (by omega) (by omega) (fun s5 a5 e_5 f_5 => ?_)
    have g_5 : s5 4 = s4 4 + 4 := by rw [e_5]; simp [updS]
    show pm_E _ _ _ 43 [(0, .ref 18), (1, .int (iI x1)), (2, .int (iI x2)), (3, .int (iI x3)), (4, .int (iI x4)), (5, .int (iI x5))] [] _ _ _ _
    refine pm_e_sim pm_a144_43 rfl ?_
    show pm_E _ _ _ 44 [(0, .ref 18), (1, .int (iI x1)), (2, .int (iI x2)), (3, .int (iI x3)), (4, .int (iI x4)), (5, .int (iI x5))] [.ref 18] _ _ _ _
    refine pm_i_get pm_a144_44 rfl (mh_get (j := 0) hA rfl) rfl ?_
    show pm_E _ _ _ 47 [(0, .ref 18), (1, .int (iI x1)), (2, .int (iI x2)), (3, .int (iI x3)), (4, .int (iI x4)), (5, .int (iI x5))] [.int (iI (s5 4))] _ _ _ _
    refine pm_e_ret pm_a144_47 rfl rfl rfl rfl rfl rfl rfl rfl ?_
    refine k2 (by omega) _ _ _ ?_ ?_ ?_
    · omega
    · funext j; by_cases hj : j = 4
      · subst hj; simp only [updS, if_true]; omega
      · simp [e_5, e_4, e_3, e_2, e_1, updS, hj]
    · funext j; by_cases hj : j = 3
      · subst hj; simp only [f_5, f_4, f_3, f_2, f_1, updA, if_true, g_1, g_2, g_3, g_4, mP5]
      · simp [f_5, f_4, f_3, f_2, f_1, updA, hj]
  · skip
    show pm_E _ _ _ 13 [(0, .ref 18), (1, .int (iI x1)), (2, .int (iI x2)), (3, .int (iI x3)), (4, .int (iI x4)), (5, .int (iI x5))] [] _ _ _ _
    refine pm_e_sim pm_a144_13 rfl ?_
    refine pm_e_top (y := iI (-3)) (by decide +kernel) ?_
    show pm_E _ _ _ 15 [(0, .ref 18), (1, .int (iI x1)), (2, .int (iI x2)), (3, .int (iI x3)), (4, .int (iI x4)), (5, .int (iI x5))] [.int (iI (-3))] _ _ _ _
    refine pm_e_ret pm_a144_15 rfl rfl rfl rfl rfl rfl rfl rfl ?_
    exact k1 (by omega)
