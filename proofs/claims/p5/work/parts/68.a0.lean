/-! THE REFERENCE: step, steps: refused -/
set_option maxHeartbeats 4000000 in
set_option maxRecDepth 100000 in
theorem M_step_b {d : Nat} {A B : List va_E} {s : Nat → Int} {vl : Int64} {a : Nat → Int → Int} {nm : Nat → Int64} {Q : Option Value → List va_E → Nat → Nat → Prop} {n x : Int} {T : Int → List Int} {w : Int} (hA : A.length = 18) (hin : ∀ i j, in32 (a i j)) (hok : okT n T) (hsh : sh s a n T) (hx : in32 x) (hw : in32 w) (hbad : x < 0 ∨ n ≤ x ∨ w < 0 ∨ 3 < w) (k : Q (some (.int (iI (-1)))) (mh A s vl a nm B) 0 0) : pm_E none (d + 5) pm_mm177 0 [(0, .ref 18), (1, .int (iI x)), (2, .int (iI w))] [] (mh A s vl a nm B) 0 0 Q := by
  obtain ⟨on0, on1, okk⟩ := id hok
  have s0 := hsh.1
  refine pm_e_sim pm_a177_0 rfl ?_
  show pm_E _ _ _ 1 [(0, .ref 18), (1, .int (iI x)), (2, .int (iI w))] [.ref 18] _ _ _ _
  refine pm_e_sim pm_a177_1 rfl ?_
  show pm_E _ _ _ 2 [(0, .ref 18), (1, .int (iI x)), (2, .int (iI w))] [.int (iI x), .ref 18] _ _ _ _
  refine pm_i_callv (k := 18) (T2 := pm_mm165) pm_a177_2 rfl rfl rfl (mh_get (j := 0) hA rfl) ⟨Nat.le_of_ble_eq_true rfl, Nat.le_of_ble_eq_true rfl, rfl, by decide +kernel⟩ ?_
  show pm_E none _ _ 0 [(0, .ref 18), (1, .int (iI x))] [] _ _ _ _
  refine M_isTerm hA ⟨by omega, by omega⟩ (by omega) (by omega) (fun h_1 => ?_) (fun h_1 => ?_)
  · skip
    show pm_E _ _ _ 5 [(0, .ref 18), (1, .int (iI x)), (2, .int (iI w))] [.int (iI 1)] _ _ _ _
    refine pm_e_iff pm_a177_5 rfl (by decide +kernel) ?_
    show pm_E _ _ _ 8 [(0, .ref 18), (1, .int (iI x)), (2, .int (iI w))] [] _ _ _ _
    refine pm_e_sim pm_a177_8 rfl ?_
    show pm_E _ _ _ 9 [(0, .ref 18), (1, .int (iI x)), (2, .int (iI w))] [.int (iI w)] _ _ _ _
    refine pm_e_sim pm_a177_9 rfl ?_
    refine pm_l_top (y := lI (w)) (iI_l ⟨by omega, by omega⟩) ?_
    show pm_E _ _ _ 10 [(0, .ref 18), (1, .int (iI x)), (2, .int (iI w))] [.long (lI w)] _ _ _ _
    refine pm_e_sim pm_a177_10 rfl ?_
    refine pm_l_top (y := lI 0) (by decide +kernel) ?_
    show pm_E _ _ _ 11 [(0, .ref 18), (1, .int (iI x)), (2, .int (iI w))] [.long (lI 0), .long (lI w)] _ _ _ _
    refine pm_e_rd pm_a177_11 rfl rfl rfl ?_
    refine pm_l_top (y := lI 3) (by decide +kernel) ?_
    show pm_E _ _ _ 14 [(0, .ref 18), (1, .int (iI x)), (2, .int (iI w))] [.long (lI 3), .long (lI 0), .long (lI w)] _ _ _ _
    refine pm_e_call (T2 := pm_mm147) pm_a177_14 rfl rfl rfl rfl rfl rfl rfl rfl rfl ?_
    show pm_E none _ _ 0 [(0, .long (lI w)), (2, .long (lI 0)), (4, .long (lI 3))] [] _ _ _ _
    refine M_in ⟨by omega, by omega⟩ ⟨by omega, by omega⟩ ⟨by omega, by omega⟩ (fun h_2 => ?_) (fun h_2 => ?_)
    · skip
      show pm_E _ _ _ 17 [(0, .ref 18), (1, .int (iI x)), (2, .int (iI w))] [.int (iI 1)] _ _ _ _
      refine pm_e_ift pm_a177_17 rfl (by decide +kernel) ?_
      show pm_E _ _ _ 22 [(0, .ref 18), (1, .int (iI x)), (2, .int (iI w))] [] _ _ _ _
      exfalso; omega
    · skip
      show pm_E _ _ _ 17 [(0, .ref 18), (1, .int (iI x)), (2, .int (iI w))] [.int (iI 0)] _ _ _ _
      refine pm_e_iff pm_a177_17 rfl (by decide +kernel) ?_
      show pm_E _ _ _ 20 [(0, .ref 18), (1, .int (iI x)), (2, .int (iI w))] [] _ _ _ _
      refine pm_e_sim pm_a177_20 rfl ?_
      refine pm_e_top (y := iI (-1)) (by decide +kernel) ?_
      show pm_E _ _ _ 21 [(0, .ref 18), (1, .int (iI x)), (2, .int (iI w))] [.int (iI (-1))] _ _ _ _
      refine pm_e_ret pm_a177_21 rfl rfl rfl rfl rfl rfl rfl rfl ?_
      exact k
  · skip
    show pm_E _ _ _ 5 [(0, .ref 18), (1, .int (iI x)), (2, .int (iI w))] [.int (iI 0)] _ _ _ _
    refine pm_e_ift pm_a177_5 rfl (by decide +kernel) ?_
    show pm_E _ _ _ 20 [(0, .ref 18), (1, .int (iI x)), (2, .int (iI w))] [] _ _ _ _
    refine pm_e_sim pm_a177_20 rfl ?_
    refine pm_e_top (y := iI (-1)) (by decide +kernel) ?_
    show pm_E _ _ _ 21 [(0, .ref 18), (1, .int (iI x)), (2, .int (iI w))] [.int (iI (-1))] _ _ _ _
    refine pm_e_ret pm_a177_21 rfl rfl rfl rfl rfl rfl rfl rfl ?_
    exact k
set_option maxHeartbeats 4000000 in
set_option maxRecDepth 100000 in
theorem M_steps_b {d : Nat} {A B : List va_E} {s : Nat → Int} {vl : Int64} {a : Nat → Int → Int} {nm : Nat → Int64} {Q : Option Value → List va_E → Nat → Nat → Prop} {n x : Int} {T : Int → List Int} {w m : Int} (hA : A.length = 18) (hin : ∀ i j, in32 (a i j)) (hok : okT n T) (hsh : sh s a n T) (hx : in32 x) (hw : in32 w) (hm : in32 m) (hbad : x < 0 ∨ n ≤ x ∨ w < 0 ∨ 3 < w ∨ m < 0 ∨ 200 < m) (k : Q (some (.int (iI (-1)))) (mh A s vl a nm B) 0 0) : pm_E none (d + 5) pm_mm189 0 [(0, .ref 18), (1, .int (iI x)), (2, .int (iI w)), (3, .int (iI m))] [] (mh A s vl a nm B) 0 0 Q := by
  obtain ⟨on0, on1, okk⟩ := id hok
  have s0 := hsh.1
  refine pm_e_sim pm_a189_0 rfl ?_
  show pm_E _ _ _ 1 [(0, .ref 18), (1, .int (iI x)), (2, .int (iI w)), (3, .int (iI m))] [.ref 18] _ _ _ _
  refine pm_e_sim pm_a189_1 rfl ?_
  show pm_E _ _ _ 2 [(0, .ref 18), (1, .int (iI x)), (2, .int (iI w)), (3, .int (iI m))] [.int (iI x), .ref 18] _ _ _ _
  refine pm_i_callv (k := 18) (T2 := pm_mm165) pm_a189_2 rfl rfl rfl (mh_get (j := 0) hA rfl) ⟨Nat.le_of_ble_eq_true rfl, Nat.le_of_ble_eq_true rfl, rfl, by decide +kernel⟩ ?_
  show pm_E none _ _ 0 [(0, .ref 18), (1, .int (iI x))] [] _ _ _ _
  refine M_isTerm hA ⟨by omega, by omega⟩ (by omega) (by omega) (fun h_1 => ?_) (fun h_1 => ?_)
  · skip
    show pm_E _ _ _ 5 [(0, .ref 18), (1, .int (iI x)), (2, .int (iI w)), (3, .int (iI m))] [.int (iI 1)] _ _ _ _
    refine pm_e_iff pm_a189_5 rfl (by decide +kernel) ?_
    show pm_E _ _ _ 8 [(0, .ref 18), (1, .int (iI x)), (2, .int (iI w)), (3, .int (iI m))] [] _ _ _ _
    refine pm_e_sim pm_a189_8 rfl ?_
    show pm_E _ _ _ 9 [(0, .ref 18), (1, .int (iI x)), (2, .int (iI w)), (3, .int (iI m))] [.int (iI w)] _ _ _ _
    refine pm_e_sim pm_a189_9 rfl ?_
    refine pm_l_top (y := lI (w)) (iI_l ⟨by omega, by omega⟩) ?_
    show pm_E _ _ _ 10 [(0, .ref 18), (1, .int (iI x)), (2, .int (iI w)), (3, .int (iI m))] [.long (lI w)] _ _ _ _
    refine pm_e_sim pm_a189_10 rfl ?_
    refine pm_l_top (y := lI 0) (by decide +kernel) ?_
    show pm_E _ _ _ 11 [(0, .ref 18), (1, .int (iI x)), (2, .int (iI w)), (3, .int (iI m))] [.long (lI 0), .long (lI w)] _ _ _ _
    refine pm_e_rd pm_a189_11 rfl rfl rfl ?_
    refine pm_l_top (y := lI 3) (by decide +kernel) ?_
    show pm_E _ _ _ 14 [(0, .ref 18), (1, .int (iI x)), (2, .int (iI w)), (3, .int (iI m))] [.long (lI 3), .long (lI 0), .long (lI w)] _ _ _ _
    refine pm_e_call (T2 := pm_mm147) pm_a189_14 rfl rfl rfl rfl rfl rfl rfl rfl rfl ?_
    show pm_E none _ _ 0 [(0, .long (lI w)), (2, .long (lI 0)), (4, .long (lI 3))] [] _ _ _ _
    refine M_in ⟨by omega, by omega⟩ ⟨by omega, by omega⟩ ⟨by omega, by omega⟩ (fun h_2 => ?_) (fun h_2 => ?_)
    · skip
      show pm_E _ _ _ 17 [(0, .ref 18), (1, .int (iI x)), (2, .int (iI w)), (3, .int (iI m))] [.int (iI 1)] _ _ _ _
      refine pm_e_iff pm_a189_17 rfl (by decide +kernel) ?_
      show pm_E _ _ _ 20 [(0, .ref 18), (1, .int (iI x)), (2, .int (iI w)), (3, .int (iI m))] [] _ _ _ _
      refine pm_e_sim pm_a189_20 rfl ?_
      show pm_E _ _ _ 21 [(0, .ref 18), (1, .int (iI x)), (2, .int (iI w)), (3, .int (iI m))] [.int (iI m)] _ _ _ _
      refine pm_e_sim pm_a189_21 rfl ?_
      refine pm_l_top (y := lI (m)) (iI_l ⟨by omega, by omega⟩) ?_
      show pm_E _ _ _ 22 [(0, .ref 18), (1, .int (iI x)), (2, .int (iI w)), (3, .int (iI m))] [.long (lI m)] _ _ _ _
      refine pm_e_sim pm_a189_22 rfl ?_
      refine pm_l_top (y := lI 0) (by decide +kernel) ?_
      show pm_E _ _ _ 23 [(0, .ref 18), (1, .int (iI x)), (2, .int (iI w)), (3, .int (iI m))] [.long (lI 0), .long (lI m)] _ _ _ _
      refine pm_e_rd pm_a189_23 rfl rfl rfl ?_
      refine pm_l_top (y := lI 200) (by decide +kernel) ?_
      show pm_E _ _ _ 26 [(0, .ref 18), (1, .int (iI x)), (2, .int (iI w)), (3, .int (iI m))] [.long (lI 200), .long (lI 0), .long (lI m)] _ _ _ _
      refine pm_e_call (T2 := pm_mm147) pm_a189_26 rfl rfl rfl rfl rfl rfl rfl rfl rfl ?_
      show pm_E none _ _ 0 [(0, .long (lI m)), (2, .long (lI 0)), (4, .long (lI 200))] [] _ _ _ _
      refine M_in ⟨by omega, by omega⟩ ⟨by omega, by omega⟩ ⟨by omega, by omega⟩ (fun h_3 => ?_) (fun h_3 => ?_)
      · skip
        show pm_E _ _ _ 29 [(0, .ref 18), (1, .int (iI x)), (2, .int (iI w)), (3, .int (iI m))] [.int (iI 1)] _ _ _ _
        refine pm_e_ift pm_a189_29 rfl (by decide +kernel) ?_
        show pm_E _ _ _ 34 [(0, .ref 18), (1, .int (iI x)), (2, .int (iI w)), (3, .int (iI m))] [] _ _ _ _
        exfalso; omega
      · skip
        show pm_E _ _ _ 29 [(0, .ref 18), (1, .int (iI x)), (2, .int (iI w)), (3, .int (iI m))] [.int (iI 0)] _ _ _ _
        refine pm_e_iff pm_a189_29 rfl (by decide +kernel) ?_
        show pm_E _ _ _ 32 [(0, .ref 18), (1, .int (iI x)), (2, .int (iI w)), (3, .int (iI m))] [] _ _ _ _
        refine pm_e_sim pm_a189_32 rfl ?_
        refine pm_e_top (y := iI (-1)) (by decide +kernel) ?_
        show pm_E _ _ _ 33 [(0, .ref 18), (1, .int (iI x)), (2, .int (iI w)), (3, .int (iI m))] [.int (iI (-1))] _ _ _ _
        refine pm_e_ret pm_a189_33 rfl rfl rfl rfl rfl rfl rfl rfl ?_
        exact k
    · skip
      show pm_E _ _ _ 17 [(0, .ref 18), (1, .int (iI x)), (2, .int (iI w)), (3, .int (iI m))] [.int (iI 0)] _ _ _ _
      refine pm_e_ift pm_a189_17 rfl (by decide +kernel) ?_
      show pm_E _ _ _ 32 [(0, .ref 18), (1, .int (iI x)), (2, .int (iI w)), (3, .int (iI m))] [] _ _ _ _
      refine pm_e_sim pm_a189_32 rfl ?_
      refine pm_e_top (y := iI (-1)) (by decide +kernel) ?_
      show pm_E _ _ _ 33 [(0, .ref 18), (1, .int (iI x)), (2, .int (iI w)), (3, .int (iI m))] [.int (iI (-1))] _ _ _ _
      refine pm_e_ret pm_a189_33 rfl rfl rfl rfl rfl rfl rfl rfl ?_
      exact k
  · skip
    show pm_E _ _ _ 5 [(0, .ref 18), (1, .int (iI x)), (2, .int (iI w)), (3, .int (iI m))] [.int (iI 0)] _ _ _ _
    refine pm_e_ift pm_a189_5 rfl (by decide +kernel) ?_
    show pm_E _ _ _ 32 [(0, .ref 18), (1, .int (iI x)), (2, .int (iI w)), (3, .int (iI m))] [] _ _ _ _
    refine pm_e_sim pm_a189_32 rfl ?_
    refine pm_e_top (y := iI (-1)) (by decide +kernel) ?_
    show pm_E _ _ _ 33 [(0, .ref 18), (1, .int (iI x)), (2, .int (iI w)), (3, .int (iI m))] [.int (iI (-1))] _ _ _ _
    refine pm_e_ret pm_a189_33 rfl rfl rfl rfl rfl rfl rfl rfl ?_
    exact k
