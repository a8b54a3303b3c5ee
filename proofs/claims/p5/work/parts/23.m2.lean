/-! THE REFERENCE: in, end, isTerm, size, fault, drop -/
set_option maxHeartbeats 4000000 in
set_option maxRecDepth 100000 in
theorem M_in {d : Nat} {ph : List va_E} {Q : Option Value → List va_E → Nat → Nat → Prop} {v lo hi : Int} (hv : in64 v) (hl : in64 lo) (hh : in64 hi) (k1' : lo ≤ v ∧ v ≤ hi → Q (some (.int (iI 1))) ph 0 0) (k2' : v < lo ∨ hi < v → Q (some (.int (iI 0))) ph 0 0) : pm_E none d pm_mm147 0 [(0, .long (lI v)), (2, .long (lI lo)), (4, .long (lI hi))] [] ph 0 0 Q := by
  have k1 : lo ≤ v → v ≤ hi → Q (some (.int (iI 1))) ph 0 0 := fun p q => k1' ⟨p, q⟩
  have k2 := k2'
  refine pm_e_sim pm_a147_0 rfl ?_
  show pm_E _ _ _ 1 [(0, .long (lI v)), (2, .long (lI lo)), (4, .long (lI hi))] [.long (lI v)] _ _ _ _
  refine pm_e_sim pm_a147_1 rfl ?_
  show pm_E _ _ _ 2 [(0, .long (lI v)), (2, .long (lI lo)), (4, .long (lI hi))] [.long (lI lo), .long (lI v)] _ _ _ _
  refine pm_l_cmp pm_a147_2 ⟨by omega, by omega⟩ ⟨by omega, by omega⟩ (fun h_1 => ?_) (fun h_1 => ?_) (fun h_1 => ?_)
  · skip
    show pm_E _ _ _ 3 [(0, .long (lI v)), (2, .long (lI lo)), (4, .long (lI hi))] [.int (iI (-1))] _ _ _ _
    refine pm_e_ift pm_a147_3 rfl (by decide +kernel) ?_
    show pm_E _ _ _ 17 [(0, .long (lI v)), (2, .long (lI lo)), (4, .long (lI hi))] [] _ _ _ _
    refine pm_e_sim pm_a147_17 rfl ?_
    refine pm_e_top (y := iI 0) (by decide +kernel) ?_
    show pm_E _ _ _ 18 [(0, .long (lI v)), (2, .long (lI lo)), (4, .long (lI hi))] [.int (iI 0)] _ _ _ _
    refine pm_e_ret pm_a147_18 rfl rfl rfl rfl rfl rfl rfl rfl ?_
    exact k2 (by omega)
  · skip
    show pm_E _ _ _ 3 [(0, .long (lI v)), (2, .long (lI lo)), (4, .long (lI hi))] [.int (iI 0)] _ _ _ _
    refine pm_e_iff pm_a147_3 rfl (by decide +kernel) ?_
    show pm_E _ _ _ 6 [(0, .long (lI v)), (2, .long (lI lo)), (4, .long (lI hi))] [] _ _ _ _
    refine pm_e_sim pm_a147_6 rfl ?_
    show pm_E _ _ _ 7 [(0, .long (lI v)), (2, .long (lI lo)), (4, .long (lI hi))] [.long (lI v)] _ _ _ _
    refine pm_e_sim pm_a147_7 rfl ?_
    show pm_E _ _ _ 9 [(0, .long (lI v)), (2, .long (lI lo)), (4, .long (lI hi))] [.long (lI hi), .long (lI v)] _ _ _ _
    refine pm_l_cmp pm_a147_9 ⟨by omega, by omega⟩ ⟨by omega, by omega⟩ (fun h_2 => ?_) (fun h_2 => ?_) (fun h_2 => ?_)
    · skip
      show pm_E _ _ _ 10 [(0, .long (lI v)), (2, .long (lI lo)), (4, .long (lI hi))] [.int (iI (-1))] _ _ _ _
      refine pm_e_iff pm_a147_10 rfl (by decide +kernel) ?_
      show pm_E _ _ _ 13 [(0, .long (lI v)), (2, .long (lI lo)), (4, .long (lI hi))] [] _ _ _ _
      refine pm_e_sim pm_a147_13 rfl ?_
      refine pm_e_top (y := iI 1) (by decide +kernel) ?_
      show pm_E _ _ _ 14 [(0, .long (lI v)), (2, .long (lI lo)), (4, .long (lI hi))] [.int (iI 1)] _ _ _ _
      refine pm_e_goto pm_a147_14 rfl ?_
      show pm_E _ _ _ 18 [(0, .long (lI v)), (2, .long (lI lo)), (4, .long (lI hi))] [.int (iI 1)] _ _ _ _
      refine pm_e_ret pm_a147_18 rfl rfl rfl rfl rfl rfl rfl rfl ?_
      exact k1 (by omega) (by omega)
    · skip
      show pm_E _ _ _ 10 [(0, .long (lI v)), (2, .long (lI lo)), (4, .long (lI hi))] [.int (iI 0)] _ _ _ _
      refine pm_e_iff pm_a147_10 rfl (by decide +kernel) ?_
      show pm_E _ _ _ 13 [(0, .long (lI v)), (2, .long (lI lo)), (4, .long (lI hi))] [] _ _ _ _
      refine pm_e_sim pm_a147_13 rfl ?_
      refine pm_e_top (y := iI 1) (by decide +kernel) ?_
      show pm_E _ _ _ 14 [(0, .long (lI v)), (2, .long (lI lo)), (4, .long (lI hi))] [.int (iI 1)] _ _ _ _
      refine pm_e_goto pm_a147_14 rfl ?_
      show pm_E _ _ _ 18 [(0, .long (lI v)), (2, .long (lI lo)), (4, .long (lI hi))] [.int (iI 1)] _ _ _ _
      refine pm_e_ret pm_a147_18 rfl rfl rfl rfl rfl rfl rfl rfl ?_
      exact k1 (by omega) (by omega)
    · skip
      show pm_E _ _ _ 10 [(0, .long (lI v)), (2, .long (lI lo)), (4, .long (lI hi))] [.int (iI 1)] _ _ _ _
      refine pm_e_ift pm_a147_10 rfl (by decide +kernel) ?_
      show pm_E _ _ _ 17 [(0, .long (lI v)), (2, .long (lI lo)), (4, .long (lI hi))] [] _ _ _ _
      refine pm_e_sim pm_a147_17 rfl ?_
      refine pm_e_top (y := iI 0) (by decide +kernel) ?_
      show pm_E _ _ _ 18 [(0, .long (lI v)), (2, .long (lI lo)), (4, .long (lI hi))] [.int (iI 0)] _ _ _ _
      refine pm_e_ret pm_a147_18 rfl rfl rfl rfl rfl rfl rfl rfl ?_
      exact k2 (by omega)
  · skip
    show pm_E _ _ _ 3 [(0, .long (lI v)), (2, .long (lI lo)), (4, .long (lI hi))] [.int (iI 1)] _ _ _ _
    refine pm_e_iff pm_a147_3 rfl (by decide +kernel) ?_
    show pm_E _ _ _ 6 [(0, .long (lI v)), (2, .long (lI lo)), (4, .long (lI hi))] [] _ _ _ _
    refine pm_e_sim pm_a147_6 rfl ?_
    show pm_E _ _ _ 7 [(0, .long (lI v)), (2, .long (lI lo)), (4, .long (lI hi))] [.long (lI v)] _ _ _ _
    refine pm_e_sim pm_a147_7 rfl ?_
    show pm_E _ _ _ 9 [(0, .long (lI v)), (2, .long (lI lo)), (4, .long (lI hi))] [.long (lI hi), .long (lI v)] _ _ _ _
    refine pm_l_cmp pm_a147_9 ⟨by omega, by omega⟩ ⟨by omega, by omega⟩ (fun h_3 => ?_) (fun h_3 => ?_) (fun h_3 => ?_)
    · skip
      show pm_E _ _ _ 10 [(0, .long (lI v)), (2, .long (lI lo)), (4, .long (lI hi))] [.int (iI (-1))] _ _ _ _
      refine pm_e_iff pm_a147_10 rfl (by decide +kernel) ?_
      show pm_E _ _ _ 13 [(0, .long (lI v)), (2, .long (lI lo)), (4, .long (lI hi))] [] _ _ _ _
      refine pm_e_sim pm_a147_13 rfl ?_
      refine pm_e_top (y := iI 1) (by decide +kernel) ?_
      show pm_E _ _ _ 14 [(0, .long (lI v)), (2, .long (lI lo)), (4, .long (lI hi))] [.int (iI 1)] _ _ _ _
      refine pm_e_goto pm_a147_14 rfl ?_
      show pm_E _ _ _ 18 [(0, .long (lI v)), (2, .long (lI lo)), (4, .long (lI hi))] [.int (iI 1)] _ _ _ _
      refine pm_e_ret pm_a147_18 rfl rfl rfl rfl rfl rfl rfl rfl ?_
      exact k1 (by omega) (by omega)
    · skip
      show pm_E _ _ _ 10 [(0, .long (lI v)), (2, .long (lI lo)), (4, .long (lI hi))] [.int (iI 0)] _ _ _ _
      refine pm_e_iff pm_a147_10 rfl (by decide +kernel) ?_
      show pm_E _ _ _ 13 [(0, .long (lI v)), (2, .long (lI lo)), (4, .long (lI hi))] [] _ _ _ _
      refine pm_e_sim pm_a147_13 rfl ?_
      refine pm_e_top (y := iI 1) (by decide +kernel) ?_
      show pm_E _ _ _ 14 [(0, .long (lI v)), (2, .long (lI lo)), (4, .long (lI hi))] [.int (iI 1)] _ _ _ _
      refine pm_e_goto pm_a147_14 rfl ?_
      show pm_E _ _ _ 18 [(0, .long (lI v)), (2, .long (lI lo)), (4, .long (lI hi))] [.int (iI 1)] _ _ _ _
      refine pm_e_ret pm_a147_18 rfl rfl rfl rfl rfl rfl rfl rfl ?_
      exact k1 (by omega) (by omega)
    · skip
      show pm_E _ _ _ 10 [(0, .long (lI v)), (2, .long (lI lo)), (4, .long (lI hi))] [.int (iI 1)] _ _ _ _
      refine pm_e_ift pm_a147_10 rfl (by decide +kernel) ?_
      show pm_E _ _ _ 17 [(0, .long (lI v)), (2, .long (lI lo)), (4, .long (lI hi))] [] _ _ _ _
      refine pm_e_sim pm_a147_17 rfl ?_
      refine pm_e_top (y := iI 0) (by decide +kernel) ?_
      show pm_E _ _ _ 18 [(0, .long (lI v)), (2, .long (lI lo)), (4, .long (lI hi))] [.int (iI 0)] _ _ _ _
      refine pm_e_ret pm_a147_18 rfl rfl rfl rfl rfl rfl rfl rfl ?_
      exact k2 (by omega)
set_option maxHeartbeats 4000000 in
set_option maxRecDepth 100000 in
theorem M_end {d : Nat} {A B : List va_E} {s : Nat → Int} {vl : Int64} {a : Nat → Int → Int} {nm : Nat → Int64} {Q : Option Value → List va_E → Nat → Nat → Prop} {x : Int} (hA : A.length = 18) (hx : in32 x) (h0 : 0 ≤ s 4) (h1 : s 4 ≤ 600) (k1 : 0 ≤ x → x ≤ s 4 → Q (some (.int (iI (s 4)))) (mh A (updS s 4 x) vl a nm B) 0 0) (k2 : x < 0 ∨ s 4 < x → Q (some (.int (iI (-1)))) (mh A s vl a nm B) 0 0) : pm_E none (d + 1) pm_mm146 0 [(0, .ref 18), (1, .int (iI x))] [] (mh A s vl a nm B) 0 0 Q := by
  refine pm_e_sim pm_a146_0 rfl ?_
  show pm_E _ _ _ 1 [(0, .ref 18), (1, .int (iI x))] [.int (iI x)] _ _ _ _
  refine pm_e_sim pm_a146_1 rfl ?_
  refine pm_l_top (y := lI (x)) (iI_l ⟨by omega, by omega⟩) ?_
  show pm_E _ _ _ 2 [(0, .ref 18), (1, .int (iI x))] [.long (lI x)] _ _ _ _
  refine pm_e_sim pm_a146_2 rfl ?_
  refine pm_l_top (y := lI 0) (by decide +kernel) ?_
  show pm_E _ _ _ 3 [(0, .ref 18), (1, .int (iI x))] [.long (lI 0), .long (lI x)] _ _ _ _
  refine pm_e_sim pm_a146_3 rfl ?_
  show pm_E _ _ _ 4 [(0, .ref 18), (1, .int (iI x))] [.ref 18, .long (lI 0), .long (lI x)] _ _ _ _
  refine pm_i_get pm_a146_4 rfl (mh_get (j := 0) hA rfl) rfl ?_
  show pm_E _ _ _ 7 [(0, .ref 18), (1, .int (iI x))] [.int (iI (s 4)), .long (lI 0), .long (lI x)] _ _ _ _
  refine pm_e_sim pm_a146_7 rfl ?_
  refine pm_l_top (y := lI (s 4)) (iI_l ⟨by omega, by omega⟩) ?_
  show pm_E _ _ _ 8 [(0, .ref 18), (1, .int (iI x))] [.long (lI (s 4)), .long (lI 0), .long (lI x)] _ _ _ _
  refine pm_e_call (T2 := pm_mm147) pm_a146_8 rfl rfl rfl rfl rfl rfl rfl rfl rfl ?_
  show pm_E none _ _ 0 [(0, .long (lI x)), (2, .long (lI 0)), (4, .long (lI (s 4)))] [] _ _ _ _
  refine M_in ⟨by omega, by omega⟩ ⟨by omega, by omega⟩ ⟨by omega, by omega⟩ (fun h_1 => ?_) (fun h_1 => ?_)
  · skip
    show pm_E _ _ _ 11 [(0, .ref 18), (1, .int (iI x))] [.int (iI 1)] _ _ _ _
    refine pm_e_ift pm_a146_11 rfl (by decide +kernel) ?_
    show pm_E _ _ _ 16 [(0, .ref 18), (1, .int (iI x))] [] _ _ _ _
    refine pm_e_sim pm_a146_16 rfl ?_
    show pm_E _ _ _ 17 [(0, .ref 18), (1, .int (iI x))] [.ref 18] _ _ _ _
    refine pm_i_get pm_a146_17 rfl (mh_get (j := 0) hA rfl) rfl ?_
    show pm_E _ _ _ 20 [(0, .ref 18), (1, .int (iI x))] [.int (iI (s 4))] _ _ _ _
    refine pm_e_sim pm_a146_20 rfl ?_
    show pm_E _ _ _ 21 [(0, .ref 18), (1, .int (iI x)), (2, .int (iI (s 4)))] [] _ _ _ _
    refine pm_e_sim pm_a146_21 rfl ?_
    show pm_E _ _ _ 22 [(0, .ref 18), (1, .int (iI x)), (2, .int (iI (s 4)))] [.ref 18] _ _ _ _
    refine pm_e_sim pm_a146_22 rfl ?_
    show pm_E _ _ _ 23 [(0, .ref 18), (1, .int (iI x)), (2, .int (iI (s 4)))] [.int (iI x), .ref 18] _ _ _ _
    refine pm_i_put pm_a146_23 rfl (mh_get (j := 0) hA rfl) rfl (Nat.le_of_ble_eq_true rfl) (Or.inl rfl) (mw_4 hA _) ?_
    show pm_E _ _ _ 26 [(0, .ref 18), (1, .int (iI x)), (2, .int (iI (s 4)))] [] _ _ _ _
    refine pm_e_sim pm_a146_26 rfl ?_
    show pm_E _ _ _ 27 [(0, .ref 18), (1, .int (iI x)), (2, .int (iI (s 4)))] [.int (iI (s 4))] _ _ _ _
    refine pm_e_ret pm_a146_27 rfl rfl rfl rfl rfl rfl rfl rfl ?_
    exact k1 (by omega) (by omega)
  · skip
    show pm_E _ _ _ 11 [(0, .ref 18), (1, .int (iI x))] [.int (iI 0)] _ _ _ _
    refine pm_e_iff pm_a146_11 rfl (by decide +kernel) ?_
    show pm_E _ _ _ 14 [(0, .ref 18), (1, .int (iI x))] [] _ _ _ _
    refine pm_e_sim pm_a146_14 rfl ?_
    refine pm_e_top (y := iI (-1)) (by decide +kernel) ?_
    show pm_E _ _ _ 15 [(0, .ref 18), (1, .int (iI x))] [.int (iI (-1))] _ _ _ _
    refine pm_e_ret pm_a146_15 rfl rfl rfl rfl rfl rfl rfl rfl ?_
    exact k2 (by omega)
set_option maxHeartbeats 4000000 in
set_option maxRecDepth 100000 in
theorem M_isTerm {d : Nat} {A B : List va_E} {s : Nat → Int} {vl : Int64} {a : Nat → Int → Int} {nm : Nat → Int64} {Q : Option Value → List va_E → Nat → Nat → Prop} {x : Int} (hA : A.length = 18) (hx : in32 x) (h0 : 0 ≤ s 0) (h1 : s 0 ≤ 32) (k1 : 0 ≤ x ∧ x < s 0 → Q (some (.int (iI 1))) (mh A s vl a nm B) 0 0) (k2 : x < 0 ∨ s 0 ≤ x → Q (some (.int (iI 0))) (mh A s vl a nm B) 0 0) : pm_E none (d + 1) pm_mm165 0 [(0, .ref 18), (1, .int (iI x))] [] (mh A s vl a nm B) 0 0 Q := by
  refine pm_e_sim pm_a165_0 rfl ?_
  show pm_E _ _ _ 1 [(0, .ref 18), (1, .int (iI x))] [.int (iI x)] _ _ _ _
  refine pm_e_sim pm_a165_1 rfl ?_
  refine pm_l_top (y := lI (x)) (iI_l ⟨by omega, by omega⟩) ?_
  show pm_E _ _ _ 2 [(0, .ref 18), (1, .int (iI x))] [.long (lI x)] _ _ _ _
  refine pm_e_sim pm_a165_2 rfl ?_
  refine pm_l_top (y := lI 0) (by decide +kernel) ?_
  show pm_E _ _ _ 3 [(0, .ref 18), (1, .int (iI x))] [.long (lI 0), .long (lI x)] _ _ _ _
  refine pm_e_sim pm_a165_3 rfl ?_
  show pm_E _ _ _ 4 [(0, .ref 18), (1, .int (iI x))] [.ref 18, .long (lI 0), .long (lI x)] _ _ _ _
  refine pm_i_get pm_a165_4 rfl (mh_get (j := 0) hA rfl) rfl ?_
  show pm_E _ _ _ 7 [(0, .ref 18), (1, .int (iI x))] [.int (iI (s 0)), .long (lI 0), .long (lI x)] _ _ _ _
  refine pm_e_sim pm_a165_7 rfl ?_
  refine pm_e_top (y := iI 1) (by decide +kernel) ?_
  show pm_E _ _ _ 8 [(0, .ref 18), (1, .int (iI x))] [.int (iI 1), .int (iI (s 0)), .long (lI 0), .long (lI x)] _ _ _ _
  refine pm_e_sim pm_a165_8 rfl ?_
  refine pm_e_top (y := iI (s 0 - 1)) (iI_sub _ _) ?_
  show pm_E _ _ _ 9 [(0, .ref 18), (1, .int (iI x))] [.int (iI (s 0 - 1)), .long (lI 0), .long (lI x)] _ _ _ _
  refine pm_e_sim pm_a165_9 rfl ?_
  refine pm_l_top (y := lI (s 0 - 1)) (iI_l ⟨by omega, by omega⟩) ?_
  show pm_E _ _ _ 10 [(0, .ref 18), (1, .int (iI x))] [.long (lI (s 0 - 1)), .long (lI 0), .long (lI x)] _ _ _ _
  refine pm_e_call (T2 := pm_mm147) pm_a165_10 rfl rfl rfl rfl rfl rfl rfl rfl rfl ?_
  show pm_E none _ _ 0 [(0, .long (lI x)), (2, .long (lI 0)), (4, .long (lI (s 0 - 1)))] [] _ _ _ _
  refine M_in ⟨by omega, by omega⟩ ⟨by omega, by omega⟩ ⟨by omega, by omega⟩ (fun h_1 => ?_) (fun h_1 => ?_)
  · skip
    show pm_E _ _ _ 13 [(0, .ref 18), (1, .int (iI x))] [.int (iI 1)] _ _ _ _
    refine pm_e_ret pm_a165_13 rfl rfl rfl rfl rfl rfl rfl rfl ?_
    exact k1 (by omega)
  · skip
    show pm_E _ _ _ 13 [(0, .ref 18), (1, .int (iI x))] [.int (iI 0)] _ _ _ _
    refine pm_e_ret pm_a165_13 rfl rfl rfl rfl rfl rfl rfl rfl ?_
    exact k2 (by omega)
set_option maxHeartbeats 4000000 in
set_option maxRecDepth 100000 in
theorem M_size {d : Nat} {A B : List va_E} {s : Nat → Int} {vl : Int64} {a : Nat → Int → Int} {nm : Nat → Int64} {Q : Option Value → List va_E → Nat → Nat → Prop} {x : Int} (hA : A.length = 18) (hx : in32 x) (h0 : 0 ≤ s 0) (h1 : s 0 ≤ 32) (k1 : 0 ≤ x → x < s 0 → Q (some (.int (iI (a 1 x)))) (mh A s vl a nm B) 0 0) (k2 : x < 0 ∨ s 0 ≤ x → Q (some (.int (iI (-1)))) (mh A s vl a nm B) 0 0) : pm_E none (d + 2) pm_mm164 0 [(0, .ref 18), (1, .int (iI x))] [] (mh A s vl a nm B) 0 0 Q := by
  refine pm_e_sim pm_a164_0 rfl ?_
  show pm_E _ _ _ 1 [(0, .ref 18), (1, .int (iI x))] [.ref 18] _ _ _ _
  refine pm_e_sim pm_a164_1 rfl ?_
  show pm_E _ _ _ 2 [(0, .ref 18), (1, .int (iI x))] [.int (iI x), .ref 18] _ _ _ _
  refine pm_i_callv (k := 18) (T2 := pm_mm165) pm_a164_2 rfl rfl rfl (mh_get (j := 0) hA rfl) ⟨Nat.le_of_ble_eq_true rfl, Nat.le_of_ble_eq_true rfl, rfl, by decide +kernel⟩ ?_
  show pm_E none _ _ 0 [(0, .ref 18), (1, .int (iI x))] [] _ _ _ _
  refine M_isTerm hA ⟨by omega, by omega⟩ (by omega) (by omega) (fun h_1 => ?_) (fun h_1 => ?_)
  · skip
    show pm_E _ _ _ 5 [(0, .ref 18), (1, .int (iI x))] [.int (iI 1)] _ _ _ _
    refine pm_e_iff pm_a164_5 rfl (by decide +kernel) ?_
    show pm_E _ _ _ 8 [(0, .ref 18), (1, .int (iI x))] [] _ _ _ _
    refine pm_e_sim pm_a164_8 rfl ?_
    show pm_E _ _ _ 9 [(0, .ref 18), (1, .int (iI x))] [.ref 18] _ _ _ _
    refine pm_i_get pm_a164_9 rfl (mh_get (j := 0) hA rfl) rfl ?_
    show pm_E _ _ _ 12 [(0, .ref 18), (1, .int (iI x))] [.ref 19] _ _ _ _
    refine pm_e_sim pm_a164_12 rfl ?_
    show pm_E _ _ _ 13 [(0, .ref 18), (1, .int (iI x))] [.int (iI x), .ref 19] _ _ _ _
    refine pm_i_ald pm_a164_13 (mh_get (j := 1) hA rfl) (by omega) (by omega) ⟨by omega, by omega⟩ ?_
    show pm_E _ _ _ 14 [(0, .ref 18), (1, .int (iI x))] [.int (iI ((a 1) (x)))] _ _ _ _
    refine pm_e_goto pm_a164_14 rfl ?_
    show pm_E _ _ _ 18 [(0, .ref 18), (1, .int (iI x))] [.int (iI ((a 1) (x)))] _ _ _ _
    refine pm_e_ret pm_a164_18 rfl rfl rfl rfl rfl rfl rfl rfl ?_
    exact k1 (by omega) (by omega)
  · skip
    show pm_E _ _ _ 5 [(0, .ref 18), (1, .int (iI x))] [.int (iI 0)] _ _ _ _
    refine pm_e_ift pm_a164_5 rfl (by decide +kernel) ?_
    show pm_E _ _ _ 17 [(0, .ref 18), (1, .int (iI x))] [] _ _ _ _
    refine pm_e_sim pm_a164_17 rfl ?_
    refine pm_e_top (y := iI (-1)) (by decide +kernel) ?_
    show pm_E _ _ _ 18 [(0, .ref 18), (1, .int (iI x))] [.int (iI (-1))] _ _ _ _
    refine pm_e_ret pm_a164_18 rfl rfl rfl rfl rfl rfl rfl rfl ?_
    exact k2 (by omega)
set_option maxHeartbeats 4000000 in
set_option maxRecDepth 100000 in
theorem M_fault {d : Nat} {A B : List va_E} {s : Nat → Int} {vl : Int64} {a : Nat → Int → Int} {nm : Nat → Int64} {Q : Option Value → List va_E → Nat → Nat → Prop} (hA : A.length = 18) (k : Q (some (.int (iI (s 13)))) (mh A s vl a nm B) 0 0) : pm_E none d pm_mm163 0 [(0, .ref 18)] [] (mh A s vl a nm B) 0 0 Q := by
  refine pm_e_sim pm_a163_0 rfl ?_
  show pm_E _ _ _ 1 [(0, .ref 18)] [.ref 18] _ _ _ _
  refine pm_i_get pm_a163_1 rfl (mh_get (j := 0) hA rfl) rfl ?_
  show pm_E _ _ _ 4 [(0, .ref 18)] [.int (iI (s 13))] _ _ _ _
  refine pm_e_ret pm_a163_4 rfl rfl rfl rfl rfl rfl rfl rfl ?_
  exact k
set_option maxHeartbeats 4000000 in
set_option maxRecDepth 100000 in
theorem M_drop {d : Nat} {A B : List va_E} {s : Nat → Int} {vl : Int64} {a : Nat → Int → Int} {nm : Nat → Int64} {Q : Option Value → List va_E → Nat → Nat → Prop} (hA : A.length = 18) (h0 : 0 ≤ s 0) (h1 : s 0 ≤ 32) (k1 : s 0 = 0 → Q (some (.int (iI (-4)))) (mh A s vl a nm B) 0 0) (k2 : 0 < s 0 → Q (some (.int (iI (s 0 - 1)))) (mh A (updS s 0 (s 0 - 1)) vl a nm B) 0 0) : pm_E none d pm_mm213 0 [(0, .ref 18)] [] (mh A s vl a nm B) 0 0 Q := by
  refine pm_e_sim pm_a213_0 rfl ?_
  show pm_E _ _ _ 1 [(0, .ref 18)] [.ref 18] _ _ _ _
  refine pm_i_get pm_a213_1 rfl (mh_get (j := 0) hA rfl) rfl ?_
  show pm_E _ _ _ 4 [(0, .ref 18)] [.int (iI (s 0))] _ _ _ _
  refine pm_i_ne (t := 10) pm_a213_4 rfl ⟨by omega, by omega⟩ (fun h_1 => ?_) (fun h_1 => ?_)
  · skip
    show pm_E _ _ _ 10 [(0, .ref 18)] [] _ _ _ _
    refine pm_e_sim pm_a213_10 rfl ?_
    show pm_E _ _ _ 11 [(0, .ref 18)] [.ref 18] _ _ _ _
    refine pm_e_sim pm_a213_11 rfl ?_
    show pm_E _ _ _ 12 [(0, .ref 18)] [.ref 18, .ref 18] _ _ _ _
    refine pm_i_get pm_a213_12 rfl (mh_get (j := 0) hA rfl) rfl ?_
    show pm_E _ _ _ 15 [(0, .ref 18)] [.int (iI (s 0)), .ref 18] _ _ _ _
    refine pm_e_sim pm_a213_15 rfl ?_
    refine pm_e_top (y := iI 1) (by decide +kernel) ?_
    show pm_E _ _ _ 16 [(0, .ref 18)] [.int (iI 1), .int (iI (s 0)), .ref 18] _ _ _ _
    refine pm_e_sim pm_a213_16 rfl ?_
    refine pm_e_top (y := iI (s 0 - 1)) (iI_sub _ _) ?_
    show pm_E _ _ _ 17 [(0, .ref 18)] [.int (iI (s 0 - 1)), .ref 18] _ _ _ _
    refine pm_i_put pm_a213_17 rfl (mh_get (j := 0) hA rfl) rfl (Nat.le_of_ble_eq_true rfl) (Or.inl rfl) (mw_0 hA _) ?_
    show pm_E _ _ _ 20 [(0, .ref 18)] [] _ _ _ _
    refine pm_e_sim pm_a213_20 rfl ?_
    show pm_E _ _ _ 21 [(0, .ref 18)] [.ref 18] _ _ _ _
    refine pm_i_get pm_a213_21 rfl (mh_get (j := 0) hA rfl) rfl ?_
    show pm_E _ _ _ 24 [(0, .ref 18)] [.int (iI (s 0 - 1))] _ _ _ _
    refine pm_e_ret pm_a213_24 rfl rfl rfl rfl rfl rfl rfl rfl ?_
    exact k2 (by omega)
  · skip
    show pm_E _ _ _ 7 [(0, .ref 18)] [] _ _ _ _
    refine pm_e_sim pm_a213_7 rfl ?_
    refine pm_e_top (y := iI (-4)) (by decide +kernel) ?_
    show pm_E _ _ _ 9 [(0, .ref 18)] [.int (iI (-4))] _ _ _ _
    refine pm_e_ret pm_a213_9 rfl rfl rfl rfl rfl rfl rfl rfl ?_
    exact k1 (by omega)
