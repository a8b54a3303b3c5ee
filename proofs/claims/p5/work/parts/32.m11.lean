/-! THE REFERENCE: next, behind a name, behind a number -/
set_option maxHeartbeats 4000000 in
set_option maxRecDepth 100000 in
theorem M_next_2t {d : Nat} {A B : List va_E} {s : Nat → Int} {v : Int} {a : Nat → Int → Int} {nm : Nat → Int64} {Q : Option Value → List va_E → Nat → Nat → Prop} {c : Int} (hA : A.length = 18) (h13 : s 13 = 0) (h9 : 0 ≤ s 9) (h9' : s 9 ≤ 600) (h10 : 0 ≤ s 10) (h10' : s 10 ≤ 600) (k1 : s 9 - s 10 ≤ 8 → Q none (mh A s (lI v) a nm B) 0 0) (k2 : 8 < s 9 - s 10 → Q none (mh A (updS (updS s 13 1) 14 (s 10)) (lI v) a nm B) 0 0) : pm_E none (d + 1) pm_mm151 144 [(0, .ref 18), (1, .int (iI c))] [] (mh A s (lI v) a nm B) 0 0 Q := by
  refine pm_e_sim pm_a151_144 rfl ?_
  show pm_E _ _ _ 145 [(0, .ref 18), (1, .int (iI c))] [.ref 18] _ _ _ _
  refine pm_i_get pm_a151_145 rfl (mh_get (j := 0) hA rfl) rfl ?_
  show pm_E _ _ _ 148 [(0, .ref 18), (1, .int (iI c))] [.int (iI (s 9))] _ _ _ _
  refine pm_e_sim pm_a151_148 rfl ?_
  show pm_E _ _ _ 149 [(0, .ref 18), (1, .int (iI c))] [.ref 18, .int (iI (s 9))] _ _ _ _
  refine pm_i_get pm_a151_149 rfl (mh_get (j := 0) hA rfl) rfl ?_
  show pm_E _ _ _ 152 [(0, .ref 18), (1, .int (iI c))] [.int (iI (s 10)), .int (iI (s 9))] _ _ _ _
  refine pm_e_sim pm_a151_152 rfl ?_
  refine pm_e_top (y := iI (s 9 - (s 10))) (iI_sub _ _) ?_
  show pm_E _ _ _ 153 [(0, .ref 18), (1, .int (iI c))] [.int (iI (s 9 - (s 10)))] _ _ _ _
  refine pm_e_sim pm_a151_153 rfl ?_
  refine pm_e_top (y := iI 8) (by decide +kernel) ?_
  show pm_E _ _ _ 155 [(0, .ref 18), (1, .int (iI c))] [.int (iI 8), .int (iI (s 9 - (s 10)))] _ _ _ _
  refine pm_c_le (t := 390) pm_a151_155 rfl ⟨by omega, by omega⟩ ⟨by omega, by omega⟩ (fun h_1 => ?_) (fun h_1 => ?_)
  · skip
    show pm_E _ _ _ 390 [(0, .ref 18), (1, .int (iI c))] [] _ _ _ _
    refine pm_e_ret pm_a151_390 rfl rfl rfl rfl rfl rfl rfl rfl ?_
    exact k1 (by omega)
  · skip
    show pm_E _ _ _ 158 [(0, .ref 18), (1, .int (iI c))] [] _ _ _ _
    refine pm_e_sim pm_a151_158 rfl ?_
    show pm_E _ _ _ 159 [(0, .ref 18), (1, .int (iI c))] [.ref 18] _ _ _ _
    refine pm_e_sim pm_a151_159 rfl ?_
    refine pm_e_top (y := iI 1) (by decide +kernel) ?_
    show pm_E _ _ _ 160 [(0, .ref 18), (1, .int (iI c))] [.int (iI 1), .ref 18] _ _ _ _
    refine pm_e_sim pm_a151_160 rfl ?_
    show pm_E _ _ _ 161 [(0, .ref 18), (1, .int (iI c))] [.ref 18, .int (iI 1), .ref 18] _ _ _ _
    refine pm_i_get pm_a151_161 rfl (mh_get (j := 0) hA rfl) rfl ?_
    show pm_E _ _ _ 164 [(0, .ref 18), (1, .int (iI c))] [.int (iI (s 10)), .int (iI 1), .ref 18] _ _ _ _
    refine pm_i_callv (k := 18) (T2 := pm_mm153) pm_a151_164 rfl rfl rfl (mh_get (j := 0) hA rfl) ⟨Nat.le_of_ble_eq_true rfl, Nat.le_of_ble_eq_true rfl, rfl, by decide +kernel⟩ ?_
    show pm_E none _ _ 0 [(0, .ref 18), (1, .int (iI 1)), (2, .int (iI (s 10)))] [] _ _ _ _
    refine M_fails hA (show in32 (s 13) from ⟨by omega, by omega⟩) (fun h_2 => ?_) (fun h_2 => absurd h13 h_2)
    show pm_E _ _ _ 167 [(0, .ref 18), (1, .int (iI c))] [] _ _ _ _
    refine pm_e_goto pm_a151_167 rfl ?_
    show pm_E _ _ _ 390 [(0, .ref 18), (1, .int (iI c))] [] _ _ _ _
    refine pm_e_ret pm_a151_390 rfl rfl rfl rfl rfl rfl rfl rfl ?_
    exact k2 (by omega)
set_option maxHeartbeats 4000000 in
set_option maxRecDepth 100000 in
theorem M_next_3t {d : Nat} {A B : List va_E} {s : Nat → Int} {v : Int} {a : Nat → Int → Int} {nm : Nat → Int64} {Q : Option Value → List va_E → Nat → Nat → Prop} {c : Int} (hA : A.length = 18) (h13 : s 13 = 0) (h9 : 0 ≤ s 9) (h9' : s 9 ≤ 600) (h10 : 0 ≤ s 10) (h10' : s 10 ≤ 600) (hv : in64 v) (k1 : s 9 - s 10 ≤ 2 ∧ v ≤ 20 → Q none (mh A s (lI v) a nm B) 0 0) (k2 : 2 < s 9 - s 10 ∨ 20 < v → Q none (mh A (updS (updS s 13 1) 14 (s 10)) (lI v) a nm B) 0 0) : pm_E none (d + 1) pm_mm151 261 [(0, .ref 18), (1, .int (iI c))] [] (mh A s (lI v) a nm B) 0 0 Q := by
  refine pm_e_sim pm_a151_261 rfl ?_
  show pm_E _ _ _ 262 [(0, .ref 18), (1, .int (iI c))] [.ref 18] _ _ _ _
  refine pm_i_get pm_a151_262 rfl (mh_get (j := 0) hA rfl) rfl ?_
  show pm_E _ _ _ 265 [(0, .ref 18), (1, .int (iI c))] [.int (iI (s 9))] _ _ _ _
  refine pm_e_sim pm_a151_265 rfl ?_
  show pm_E _ _ _ 266 [(0, .ref 18), (1, .int (iI c))] [.ref 18, .int (iI (s 9))] _ _ _ _
  refine pm_i_get pm_a151_266 rfl (mh_get (j := 0) hA rfl) rfl ?_
  show pm_E _ _ _ 269 [(0, .ref 18), (1, .int (iI c))] [.int (iI (s 10)), .int (iI (s 9))] _ _ _ _
  refine pm_e_sim pm_a151_269 rfl ?_
  refine pm_e_top (y := iI (s 9 - (s 10))) (iI_sub _ _) ?_
  show pm_E _ _ _ 270 [(0, .ref 18), (1, .int (iI c))] [.int (iI (s 9 - (s 10)))] _ _ _ _
  refine pm_e_sim pm_a151_270 rfl ?_
  refine pm_e_top (y := iI 2) (by decide +kernel) ?_
  show pm_E _ _ _ 271 [(0, .ref 18), (1, .int (iI c))] [.int (iI 2), .int (iI (s 9 - (s 10)))] _ _ _ _
  refine pm_c_gt (t := 285) pm_a151_271 rfl ⟨by omega, by omega⟩ ⟨by omega, by omega⟩ (fun h_1 => ?_) (fun h_1 => ?_)
  · skip
    show pm_E _ _ _ 285 [(0, .ref 18), (1, .int (iI c))] [] _ _ _ _
    refine pm_e_sim pm_a151_285 rfl ?_
    show pm_E _ _ _ 286 [(0, .ref 18), (1, .int (iI c))] [.ref 18] _ _ _ _
    refine pm_e_sim pm_a151_286 rfl ?_
    refine pm_e_top (y := iI 1) (by decide +kernel) ?_
    show pm_E _ _ _ 287 [(0, .ref 18), (1, .int (iI c))] [.int (iI 1), .ref 18] _ _ _ _
    refine pm_e_sim pm_a151_287 rfl ?_
    show pm_E _ _ _ 288 [(0, .ref 18), (1, .int (iI c))] [.ref 18, .int (iI 1), .ref 18] _ _ _ _
    refine pm_i_get pm_a151_288 rfl (mh_get (j := 0) hA rfl) rfl ?_
    show pm_E _ _ _ 291 [(0, .ref 18), (1, .int (iI c))] [.int (iI (s 10)), .int (iI 1), .ref 18] _ _ _ _
    refine pm_i_callv (k := 18) (T2 := pm_mm153) pm_a151_291 rfl rfl rfl (mh_get (j := 0) hA rfl) ⟨Nat.le_of_ble_eq_true rfl, Nat.le_of_ble_eq_true rfl, rfl, by decide +kernel⟩ ?_
    show pm_E none _ _ 0 [(0, .ref 18), (1, .int (iI 1)), (2, .int (iI (s 10)))] [] _ _ _ _
    refine M_fails hA (show in32 (s 13) from ⟨by omega, by omega⟩) (fun h_2 => ?_) (fun h_2 => absurd h13 h_2)
    show pm_E _ _ _ 294 [(0, .ref 18), (1, .int (iI c))] [] _ _ _ _
    refine pm_e_goto pm_a151_294 rfl ?_
    show pm_E _ _ _ 390 [(0, .ref 18), (1, .int (iI c))] [] _ _ _ _
    refine pm_e_ret pm_a151_390 rfl rfl rfl rfl rfl rfl rfl rfl ?_
    exact k2 (by omega)
  · skip
    show pm_E _ _ _ 274 [(0, .ref 18), (1, .int (iI c))] [] _ _ _ _
    refine pm_e_sim pm_a151_274 rfl ?_
    show pm_E _ _ _ 275 [(0, .ref 18), (1, .int (iI c))] [.ref 18] _ _ _ _
    refine pm_i_get pm_a151_275 rfl (mh_get (j := 0) hA rfl) rfl ?_
    show pm_E _ _ _ 278 [(0, .ref 18), (1, .int (iI c))] [.long (lI v)] _ _ _ _
    refine pm_e_rd pm_a151_278 rfl rfl rfl ?_
    refine pm_l_top (y := lI 20) (by decide +kernel) ?_
    show pm_E _ _ _ 281 [(0, .ref 18), (1, .int (iI c))] [.long (lI 20), .long (lI v)] _ _ _ _
    refine pm_l_cmp pm_a151_281 ⟨by omega, by omega⟩ ⟨by omega, by omega⟩ (fun h_3 => ?_) (fun h_3 => ?_) (fun h_3 => ?_)
    · skip
      show pm_E _ _ _ 282 [(0, .ref 18), (1, .int (iI c))] [.int (iI (-1))] _ _ _ _
      refine pm_e_ift pm_a151_282 rfl (by decide +kernel) ?_
      show pm_E _ _ _ 390 [(0, .ref 18), (1, .int (iI c))] [] _ _ _ _
      refine pm_e_ret pm_a151_390 rfl rfl rfl rfl rfl rfl rfl rfl ?_
      exact k1 (by omega)
    · skip
      show pm_E _ _ _ 282 [(0, .ref 18), (1, .int (iI c))] [.int (iI 0)] _ _ _ _
      refine pm_e_ift pm_a151_282 rfl (by decide +kernel) ?_
      show pm_E _ _ _ 390 [(0, .ref 18), (1, .int (iI c))] [] _ _ _ _
      refine pm_e_ret pm_a151_390 rfl rfl rfl rfl rfl rfl rfl rfl ?_
      exact k1 (by omega)
    · skip
      show pm_E _ _ _ 282 [(0, .ref 18), (1, .int (iI c))] [.int (iI 1)] _ _ _ _
      refine pm_e_iff pm_a151_282 rfl (by decide +kernel) ?_
      show pm_E _ _ _ 285 [(0, .ref 18), (1, .int (iI c))] [] _ _ _ _
      refine pm_e_sim pm_a151_285 rfl ?_
      show pm_E _ _ _ 286 [(0, .ref 18), (1, .int (iI c))] [.ref 18] _ _ _ _
      refine pm_e_sim pm_a151_286 rfl ?_
      refine pm_e_top (y := iI 1) (by decide +kernel) ?_
      show pm_E _ _ _ 287 [(0, .ref 18), (1, .int (iI c))] [.int (iI 1), .ref 18] _ _ _ _
      refine pm_e_sim pm_a151_287 rfl ?_
      show pm_E _ _ _ 288 [(0, .ref 18), (1, .int (iI c))] [.ref 18, .int (iI 1), .ref 18] _ _ _ _
      refine pm_i_get pm_a151_288 rfl (mh_get (j := 0) hA rfl) rfl ?_
      show pm_E _ _ _ 291 [(0, .ref 18), (1, .int (iI c))] [.int (iI (s 10)), .int (iI 1), .ref 18] _ _ _ _
      refine pm_i_callv (k := 18) (T2 := pm_mm153) pm_a151_291 rfl rfl rfl (mh_get (j := 0) hA rfl) ⟨Nat.le_of_ble_eq_true rfl, Nat.le_of_ble_eq_true rfl, rfl, by decide +kernel⟩ ?_
      show pm_E none _ _ 0 [(0, .ref 18), (1, .int (iI 1)), (2, .int (iI (s 10)))] [] _ _ _ _
      refine M_fails hA (show in32 (s 13) from ⟨by omega, by omega⟩) (fun h_4 => ?_) (fun h_4 => absurd h13 h_4)
      show pm_E _ _ _ 294 [(0, .ref 18), (1, .int (iI c))] [] _ _ _ _
      refine pm_e_goto pm_a151_294 rfl ?_
      show pm_E _ _ _ 390 [(0, .ref 18), (1, .int (iI c))] [] _ _ _ _
      refine pm_e_ret pm_a151_390 rfl rfl rfl rfl rfl rfl rfl rfl ?_
      exact k2 (by omega)
