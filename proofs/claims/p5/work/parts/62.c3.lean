/-! THE CLASS: Shape -/
def shE (a : Nat → Int → Int) (p : Int) : Int := if 0 ≤ p ∧ p < 502 then a 1 p else p
def shD (a : Nat → Int → Int) (p : Int) : Int := if 0 ≤ p ∧ p < 502 then a 2 p else 0
theorem shE_y {a : Nat → Int → Int} {p : Int} (h : 0 ≤ p) (h1 : p < 502) : shE a p = a 1 p := if_pos ⟨h, h1⟩
theorem shE_n {a : Nat → Int → Int} {p : Int} (h : p < 0 ∨ 502 ≤ p) : shE a p = p := if_neg (by omega)
theorem shD_y {a : Nat → Int → Int} {p : Int} (h : 0 ≤ p) (h1 : p < 502) : shD a p = a 2 p := if_pos ⟨h, h1⟩
theorem shD_n {a : Nat → Int → Int} {p : Int} (h : p < 0 ∨ 502 ≤ p) : shD a p = 0 := if_neg (by omega)
theorem shE_in {a : Nat → Int → Int} {p : Int} (h : ∀ q, in32 (a 1 q)) (hp : in32 p) : in32 (shE a p) := by
  unfold shE
  split
  · exact h p
  · exact hp
theorem shD_in {a : Nat → Int → Int} {p : Int} (h : ∀ q, in32 (a 2 q)) : in32 (shD a p) := by
  unfold shD
  split
  · exact h p
  · decide
def ebI (a : Nat → Int → Int) (c p : Int) : Int := if c = 1 then shE a (p + 1) else if c = 0 then shE a (shE a (p + 1)) else p + 1
/-- the ends of all parts from p to e -/
def en (g E : Int → Int) (p e : Int) : Prop := ∀ q, p ≤ q → q < e → ∃ f k, tm g f k q (E q)
set_option maxHeartbeats 4000000 in
set_option maxRecDepth 100000 in
theorem C_endOf {d n : Nat} {kd pl : Nat → Nat} {s : Nat → Int} {a : Nat → Int → Int} {c : Nat → cdt} {M : List va_E} {Q : Option Value → List va_E → Nat → Nat → Prop} {p : Int} (hW : wf n kd pl) (hp : in32 p) (k : Q (some (.int (iI (shE a p)))) (ch n kd pl s a c M) 0 0) : pm_E none d pm_mm72 0 [(0, .ref (pl 6)), (1, .int (iI p))] [] (ch n kd pl s a c M) 0 0 Q := by
  refine pm_e_sim pm_a72_0 rfl ?_
  show pm_E _ _ _ 1 [(0, .ref (pl 6)), (1, .int (iI p))] [.int (iI p)] _ _ _ _
  refine pm_i_lt (t := 22) pm_a72_1 rfl ⟨by omega, by omega⟩ (fun h_1 => ?_) (fun h_1 => ?_)
  · skip
    show pm_E _ _ _ 22 [(0, .ref (pl 6)), (1, .int (iI p))] [] _ _ _ _
    refine pm_e_sim pm_a72_22 rfl ?_
    show pm_E _ _ _ 23 [(0, .ref (pl 6)), (1, .int (iI p))] [.int (iI p)] _ _ _ _
    refine pm_e_ret pm_a72_23 rfl rfl rfl rfl rfl rfl rfl rfl ?_
    rw [shE_n (by omega)] at k
    exact k
  · skip
    show pm_E _ _ _ 4 [(0, .ref (pl 6)), (1, .int (iI p))] [] _ _ _ _
    refine pm_e_sim pm_a72_4 rfl ?_
    show pm_E _ _ _ 5 [(0, .ref (pl 6)), (1, .int (iI p))] [.int (iI p)] _ _ _ _
    refine pm_e_sim pm_a72_5 rfl ?_
    show pm_E _ _ _ 6 [(0, .ref (pl 6)), (1, .int (iI p))] [.ref (pl 6), .int (iI p)] _ _ _ _
    refine pm_i_get pm_a72_6 rfl (cg_6 hW) rfl ?_
    show pm_E _ _ _ 9 [(0, .ref (pl 6)), (1, .int (iI p))] [.ref (pl 7), .int (iI p)] _ _ _ _
    refine pm_i_aln pm_a72_9 (cg_7 hW) ?_
    show pm_E _ _ _ 10 [(0, .ref (pl 6)), (1, .int (iI p))] [.int (iI 502), .int (iI p)] _ _ _ _
    refine pm_c_ge (t := 22) pm_a72_10 rfl ⟨by omega, by omega⟩ ⟨by omega, by omega⟩ (fun h_2 => ?_) (fun h_2 => ?_)
    · skip
      show pm_E _ _ _ 22 [(0, .ref (pl 6)), (1, .int (iI p))] [] _ _ _ _
      refine pm_e_sim pm_a72_22 rfl ?_
      show pm_E _ _ _ 23 [(0, .ref (pl 6)), (1, .int (iI p))] [.int (iI p)] _ _ _ _
      refine pm_e_ret pm_a72_23 rfl rfl rfl rfl rfl rfl rfl rfl ?_
      rw [shE_n (by omega)] at k
      exact k
    · skip
      show pm_E _ _ _ 13 [(0, .ref (pl 6)), (1, .int (iI p))] [] _ _ _ _
      refine pm_e_sim pm_a72_13 rfl ?_
      show pm_E _ _ _ 14 [(0, .ref (pl 6)), (1, .int (iI p))] [.ref (pl 6)] _ _ _ _
      refine pm_i_get pm_a72_14 rfl (cg_6 hW) rfl ?_
      show pm_E _ _ _ 17 [(0, .ref (pl 6)), (1, .int (iI p))] [.ref (pl 7)] _ _ _ _
      refine pm_e_sim pm_a72_17 rfl ?_
      show pm_E _ _ _ 18 [(0, .ref (pl 6)), (1, .int (iI p))] [.int (iI p), .ref (pl 7)] _ _ _ _
      refine pm_i_ald pm_a72_18 (cg_7 hW) (by omega) (by omega) ⟨by omega, by omega⟩ ?_
      show pm_E _ _ _ 19 [(0, .ref (pl 6)), (1, .int (iI p))] [.int (iI ((a 1) (p)))] _ _ _ _
      refine pm_e_goto pm_a72_19 rfl ?_
      show pm_E _ _ _ 23 [(0, .ref (pl 6)), (1, .int (iI p))] [.int (iI ((a 1) (p)))] _ _ _ _
      refine pm_e_ret pm_a72_23 rfl rfl rfl rfl rfl rfl rfl rfl ?_
      rw [shE_y (by omega) (by omega)] at k
      exact k
set_option maxHeartbeats 4000000 in
set_option maxRecDepth 100000 in
theorem C_depthOf {d n : Nat} {kd pl : Nat → Nat} {s : Nat → Int} {a : Nat → Int → Int} {c : Nat → cdt} {M : List va_E} {Q : Option Value → List va_E → Nat → Nat → Prop} {p : Int} (hW : wf n kd pl) (hp : in32 p) (k : Q (some (.int (iI (shD a p)))) (ch n kd pl s a c M) 0 0) : pm_E none d pm_mm75 0 [(0, .ref (pl 6)), (1, .int (iI p))] [] (ch n kd pl s a c M) 0 0 Q := by
  refine pm_e_sim pm_a75_0 rfl ?_
  show pm_E _ _ _ 1 [(0, .ref (pl 6)), (1, .int (iI p))] [.int (iI p)] _ _ _ _
  refine pm_i_lt (t := 22) pm_a75_1 rfl ⟨by omega, by omega⟩ (fun h_1 => ?_) (fun h_1 => ?_)
  · skip
    show pm_E _ _ _ 22 [(0, .ref (pl 6)), (1, .int (iI p))] [] _ _ _ _
    refine pm_e_sim pm_a75_22 rfl ?_
    refine pm_e_top (y := iI 0) (by decide +kernel) ?_
    show pm_E _ _ _ 23 [(0, .ref (pl 6)), (1, .int (iI p))] [.int (iI 0)] _ _ _ _
    refine pm_e_ret pm_a75_23 rfl rfl rfl rfl rfl rfl rfl rfl ?_
    rw [shD_n (by omega)] at k
    exact k
  · skip
    show pm_E _ _ _ 4 [(0, .ref (pl 6)), (1, .int (iI p))] [] _ _ _ _
    refine pm_e_sim pm_a75_4 rfl ?_
    show pm_E _ _ _ 5 [(0, .ref (pl 6)), (1, .int (iI p))] [.int (iI p)] _ _ _ _
    refine pm_e_sim pm_a75_5 rfl ?_
    show pm_E _ _ _ 6 [(0, .ref (pl 6)), (1, .int (iI p))] [.ref (pl 6), .int (iI p)] _ _ _ _
    refine pm_i_get pm_a75_6 rfl (cg_6 hW) rfl ?_
    show pm_E _ _ _ 9 [(0, .ref (pl 6)), (1, .int (iI p))] [.ref (pl 8), .int (iI p)] _ _ _ _
    refine pm_i_aln pm_a75_9 (cg_8 hW) ?_
    show pm_E _ _ _ 10 [(0, .ref (pl 6)), (1, .int (iI p))] [.int (iI 502), .int (iI p)] _ _ _ _
    refine pm_c_ge (t := 22) pm_a75_10 rfl ⟨by omega, by omega⟩ ⟨by omega, by omega⟩ (fun h_2 => ?_) (fun h_2 => ?_)
    · skip
      show pm_E _ _ _ 22 [(0, .ref (pl 6)), (1, .int (iI p))] [] _ _ _ _
      refine pm_e_sim pm_a75_22 rfl ?_
      refine pm_e_top (y := iI 0) (by decide +kernel) ?_
      show pm_E _ _ _ 23 [(0, .ref (pl 6)), (1, .int (iI p))] [.int (iI 0)] _ _ _ _
      refine pm_e_ret pm_a75_23 rfl rfl rfl rfl rfl rfl rfl rfl ?_
      rw [shD_n (by omega)] at k
      exact k
    · skip
      show pm_E _ _ _ 13 [(0, .ref (pl 6)), (1, .int (iI p))] [] _ _ _ _
      refine pm_e_sim pm_a75_13 rfl ?_
      show pm_E _ _ _ 14 [(0, .ref (pl 6)), (1, .int (iI p))] [.ref (pl 6)] _ _ _ _
      refine pm_i_get pm_a75_14 rfl (cg_6 hW) rfl ?_
      show pm_E _ _ _ 17 [(0, .ref (pl 6)), (1, .int (iI p))] [.ref (pl 8)] _ _ _ _
      refine pm_e_sim pm_a75_17 rfl ?_
      show pm_E _ _ _ 18 [(0, .ref (pl 6)), (1, .int (iI p))] [.int (iI p), .ref (pl 8)] _ _ _ _
      refine pm_i_ald pm_a75_18 (cg_8 hW) (by omega) (by omega) ⟨by omega, by omega⟩ ?_
      show pm_E _ _ _ 19 [(0, .ref (pl 6)), (1, .int (iI p))] [.int (iI ((a 2) (p)))] _ _ _ _
      refine pm_e_goto pm_a75_19 rfl ?_
      show pm_E _ _ _ 23 [(0, .ref (pl 6)), (1, .int (iI p))] [.int (iI ((a 2) (p)))] _ _ _ _
      refine pm_e_ret pm_a75_23 rfl rfl rfl rfl rfl rfl rfl rfl ?_
      rw [shD_y (by omega) (by omega)] at k
      exact k
set_option maxHeartbeats 4000000 in
set_option maxRecDepth 100000 in
theorem C_putDepth {d n : Nat} {kd pl : Nat → Nat} {s : Nat → Int} {a : Nat → Int → Int} {c : Nat → cdt} {M : List va_E} {Q : Option Value → List va_E → Nat → Nat → Prop} {p v : Int} (hW : wf n kd pl) (hp : in32 p) (k1 : 0 ≤ p → p < 502 → Q none (ch n kd pl s (updA a 2 (updI (a 2) p v)) c M) 0 0) (k0 : p < 0 ∨ 502 ≤ p → Q none (ch n kd pl s a c M) 0 0) : pm_E none d pm_mm73 0 [(0, .ref (pl 6)), (1, .int (iI p)), (2, .int (iI v))] [] (ch n kd pl s a c M) 0 0 Q := by
  refine pm_e_sim pm_a73_0 rfl ?_
  show pm_E _ _ _ 1 [(0, .ref (pl 6)), (1, .int (iI p)), (2, .int (iI v))] [.int (iI p)] _ _ _ _
  refine pm_i_lt (t := 20) pm_a73_1 rfl ⟨by omega, by omega⟩ (fun h_1 => ?_) (fun h_1 => ?_)
  · skip
    show pm_E _ _ _ 20 [(0, .ref (pl 6)), (1, .int (iI p)), (2, .int (iI v))] [] _ _ _ _
    refine pm_e_ret pm_a73_20 rfl rfl rfl rfl rfl rfl rfl rfl ?_
    exact k0 (by omega)
  · skip
    show pm_E _ _ _ 4 [(0, .ref (pl 6)), (1, .int (iI p)), (2, .int (iI v))] [] _ _ _ _
    refine pm_e_sim pm_a73_4 rfl ?_
    show pm_E _ _ _ 5 [(0, .ref (pl 6)), (1, .int (iI p)), (2, .int (iI v))] [.int (iI p)] _ _ _ _
    refine pm_e_sim pm_a73_5 rfl ?_
    show pm_E _ _ _ 6 [(0, .ref (pl 6)), (1, .int (iI p)), (2, .int (iI v))] [.ref (pl 6), .int (iI p)] _ _ _ _
    refine pm_i_get pm_a73_6 rfl (cg_6 hW) rfl ?_
    show pm_E _ _ _ 9 [(0, .ref (pl 6)), (1, .int (iI p)), (2, .int (iI v))] [.ref (pl 8), .int (iI p)] _ _ _ _
    refine pm_i_aln pm_a73_9 (cg_8 hW) ?_
    show pm_E _ _ _ 10 [(0, .ref (pl 6)), (1, .int (iI p)), (2, .int (iI v))] [.int (iI 502), .int (iI p)] _ _ _ _
    refine pm_c_ge (t := 20) pm_a73_10 rfl ⟨by omega, by omega⟩ ⟨by omega, by omega⟩ (fun h_2 => ?_) (fun h_2 => ?_)
    · skip
      show pm_E _ _ _ 20 [(0, .ref (pl 6)), (1, .int (iI p)), (2, .int (iI v))] [] _ _ _ _
      refine pm_e_ret pm_a73_20 rfl rfl rfl rfl rfl rfl rfl rfl ?_
      exact k0 (by omega)
    · skip
      show pm_E _ _ _ 13 [(0, .ref (pl 6)), (1, .int (iI p)), (2, .int (iI v))] [] _ _ _ _
      refine pm_e_sim pm_a73_13 rfl ?_
      show pm_E _ _ _ 14 [(0, .ref (pl 6)), (1, .int (iI p)), (2, .int (iI v))] [.ref (pl 6)] _ _ _ _
      refine pm_i_get pm_a73_14 rfl (cg_6 hW) rfl ?_
      show pm_E _ _ _ 17 [(0, .ref (pl 6)), (1, .int (iI p)), (2, .int (iI v))] [.ref (pl 8)] _ _ _ _
      refine pm_e_sim pm_a73_17 rfl ?_
      show pm_E _ _ _ 18 [(0, .ref (pl 6)), (1, .int (iI p)), (2, .int (iI v))] [.int (iI p), .ref (pl 8)] _ _ _ _
      refine pm_e_sim pm_a73_18 rfl ?_
      show pm_E _ _ _ 19 [(0, .ref (pl 6)), (1, .int (iI p)), (2, .int (iI v))] [.int (iI v), .int (iI p), .ref (pl 8)] _ _ _ _
      refine pm_i_ast pm_a73_19 (cg_8 hW) (by omega) (by omega) ⟨by omega, by omega⟩ (ca_8 hW _) ?_
      show pm_E _ _ _ 20 [(0, .ref (pl 6)), (1, .int (iI p)), (2, .int (iI v))] [] _ _ _ _
      refine pm_e_ret pm_a73_20 rfl rfl rfl rfl rfl rfl rfl rfl ?_
      exact k1 (by omega) (by omega)
set_option maxHeartbeats 4000000 in
set_option maxRecDepth 100000 in
theorem C_binderDepth {d n : Nat} {kd pl : Nat → Nat} {s : Nat → Int} {a : Nat → Int → Int} {c : Nat → cdt} {M : List va_E} {Q : Option Value → List va_E → Nat → Nat → Prop} {x p : Int} (hW : wf n kd pl) (hp : in32 p) (k : Q (some (.int (iI (shD a p - 1 - (x - 10))))) (ch n kd pl s a c M) 0 0) : pm_E none (d + 1) pm_mm80 0 [(0, .ref (pl 6)), (1, .int (iI x)), (2, .int (iI p))] [] (ch n kd pl s a c M) 0 0 Q := by
  obtain ⟨_, _⟩ := hp
  refine pm_e_sim pm_a80_0 rfl ?_
  show pm_E _ _ _ 1 [(0, .ref (pl 6)), (1, .int (iI x)), (2, .int (iI p))] [.ref (pl 6)] _ _ _ _
  refine pm_e_sim pm_a80_1 rfl ?_
  show pm_E _ _ _ 2 [(0, .ref (pl 6)), (1, .int (iI x)), (2, .int (iI p))] [.int (iI p), .ref (pl 6)] _ _ _ _
  refine pm_i_callv (k := (pl 6)) (T2 := pm_mm75) pm_a80_2 rfl rfl rfl (cg_6 hW) ⟨Nat.le_of_ble_eq_true rfl, Nat.le_of_ble_eq_true rfl, rfl, by decide +kernel⟩ ?_
  show pm_E none _ _ 0 [(0, .ref (pl 6)), (1, .int (iI p))] [] _ _ _ _
  refine C_depthOf hW ⟨by omega, by omega⟩ ?_
  show pm_E _ _ _ 5 [(0, .ref (pl 6)), (1, .int (iI x)), (2, .int (iI p))] [.int (iI (shD a (p)))] _ _ _ _
  refine pm_e_sim pm_a80_5 rfl ?_
  refine pm_e_top (y := iI 1) (by decide +kernel) ?_
  show pm_E _ _ _ 6 [(0, .ref (pl 6)), (1, .int (iI x)), (2, .int (iI p))] [.int (iI 1), .int (iI (shD a (p)))] _ _ _ _
  refine pm_e_sim pm_a80_6 rfl ?_
  refine pm_e_top (y := iI (shD a (p) - 1)) (iI_sub _ _) ?_
  show pm_E _ _ _ 7 [(0, .ref (pl 6)), (1, .int (iI x)), (2, .int (iI p))] [.int (iI (shD a (p) - 1))] _ _ _ _
  refine pm_e_sim pm_a80_7 rfl ?_
  show pm_E _ _ _ 8 [(0, .ref (pl 6)), (1, .int (iI x)), (2, .int (iI p))] [.int (iI x), .int (iI (shD a (p) - 1))] _ _ _ _
  refine pm_e_sim pm_a80_8 rfl ?_
  refine pm_e_top (y := iI 10) (by decide +kernel) ?_
  show pm_E _ _ _ 10 [(0, .ref (pl 6)), (1, .int (iI x)), (2, .int (iI p))] [.int (iI 10), .int (iI x), .int (iI (shD a (p) - 1))] _ _ _ _
  refine pm_e_sim pm_a80_10 rfl ?_
  refine pm_e_top (y := iI (x - 10)) (iI_sub _ _) ?_
  show pm_E _ _ _ 11 [(0, .ref (pl 6)), (1, .int (iI x)), (2, .int (iI p))] [.int (iI (x - 10)), .int (iI (shD a (p) - 1))] _ _ _ _
  refine pm_e_sim pm_a80_11 rfl ?_
  refine pm_e_top (y := iI (shD a (p) - 1 - (x - 10))) (iI_sub _ _) ?_
  show pm_E _ _ _ 12 [(0, .ref (pl 6)), (1, .int (iI x)), (2, .int (iI p))] [.int (iI (shD a (p) - 1 - (x - 10)))] _ _ _ _
  refine pm_e_ret pm_a80_12 rfl rfl rfl rfl rfl rfl rfl rfl ?_
  exact k
set_option maxHeartbeats 4000000 in
set_option maxRecDepth 100000 in
theorem C_endBy {d n : Nat} {kd pl : Nat → Nat} {s : Nat → Int} {a : Nat → Int → Int} {c : Nat → cdt} {M : List va_E} {Q : Option Value → List va_E → Nat → Nat → Prop} {x p : Int} (hW : wf n kd pl) (hin : ∀ q, in32 (a 1 q)) (hx : in32 x) (hp : 0 ≤ p ∧ p ≤ 100000) (k : Q (some (.int (iI (ebI a x p)))) (ch n kd pl s a c M) 0 0) : pm_E none (d + 1) pm_mm71 0 [(0, .ref (pl 6)), (1, .int (iI x)), (2, .int (iI p))] [] (ch n kd pl s a c M) 0 0 Q := by
  refine pm_e_sim pm_a71_0 rfl ?_
  show pm_E _ _ _ 1 [(0, .ref (pl 6)), (1, .int (iI x)), (2, .int (iI p))] [.int (iI x)] _ _ _ _
  refine pm_e_sim pm_a71_1 rfl ?_
  refine pm_e_top (y := iI 1) (by decide +kernel) ?_
  show pm_E _ _ _ 2 [(0, .ref (pl 6)), (1, .int (iI x)), (2, .int (iI p))] [.int (iI 1), .int (iI x)] _ _ _ _
  refine pm_c_ne (t := 13) pm_a71_2 rfl ⟨by omega, by omega⟩ ⟨by omega, by omega⟩ (fun h_1 => ?_) (fun h_1 => ?_)
  · skip
    show pm_E _ _ _ 13 [(0, .ref (pl 6)), (1, .int (iI x)), (2, .int (iI p))] [] _ _ _ _
    refine pm_e_sim pm_a71_13 rfl ?_
    show pm_E _ _ _ 14 [(0, .ref (pl 6)), (1, .int (iI x)), (2, .int (iI p))] [.int (iI x)] _ _ _ _
    refine pm_i_ne (t := 31) pm_a71_14 rfl ⟨by omega, by omega⟩ (fun h_2 => ?_) (fun h_2 => ?_)
    · skip
      show pm_E _ _ _ 31 [(0, .ref (pl 6)), (1, .int (iI x)), (2, .int (iI p))] [] _ _ _ _
      refine pm_e_sim pm_a71_31 rfl ?_
      show pm_E _ _ _ 32 [(0, .ref (pl 6)), (1, .int (iI x)), (2, .int (iI p))] [.int (iI p)] _ _ _ _
      refine pm_e_sim pm_a71_32 rfl ?_
      refine pm_e_top (y := iI 1) (by decide +kernel) ?_
      show pm_E _ _ _ 33 [(0, .ref (pl 6)), (1, .int (iI x)), (2, .int (iI p))] [.int (iI 1), .int (iI p)] _ _ _ _
      refine pm_e_sim pm_a71_33 rfl ?_
      refine pm_e_top (y := iI (p + 1)) (iI_add _ _) ?_
      show pm_E _ _ _ 34 [(0, .ref (pl 6)), (1, .int (iI x)), (2, .int (iI p))] [.int (iI (p + 1))] _ _ _ _
      refine pm_e_ret pm_a71_34 rfl rfl rfl rfl rfl rfl rfl rfl ?_
      unfold ebI at k
      rw [if_neg (by omega), if_neg (by omega)] at k
      exact k
    · skip
      show pm_E _ _ _ 17 [(0, .ref (pl 6)), (1, .int (iI x)), (2, .int (iI p))] [] _ _ _ _
      refine pm_e_sim pm_a71_17 rfl ?_
      show pm_E _ _ _ 18 [(0, .ref (pl 6)), (1, .int (iI x)), (2, .int (iI p))] [.ref (pl 6)] _ _ _ _
      refine pm_e_sim pm_a71_18 rfl ?_
      show pm_E _ _ _ 19 [(0, .ref (pl 6)), (1, .int (iI x)), (2, .int (iI p))] [.ref (pl 6), .ref (pl 6)] _ _ _ _
      refine pm_e_sim pm_a71_19 rfl ?_
      show pm_E _ _ _ 20 [(0, .ref (pl 6)), (1, .int (iI x)), (2, .int (iI p))] [.int (iI p), .ref (pl 6), .ref (pl 6)] _ _ _ _
      refine pm_e_sim pm_a71_20 rfl ?_
      refine pm_e_top (y := iI 1) (by decide +kernel) ?_
      show pm_E _ _ _ 21 [(0, .ref (pl 6)), (1, .int (iI x)), (2, .int (iI p))] [.int (iI 1), .int (iI p), .ref (pl 6), .ref (pl 6)] _ _ _ _
      refine pm_e_sim pm_a71_21 rfl ?_
      refine pm_e_top (y := iI (p + 1)) (iI_add _ _) ?_
      show pm_E _ _ _ 22 [(0, .ref (pl 6)), (1, .int (iI x)), (2, .int (iI p))] [.int (iI (p + 1)), .ref (pl 6), .ref (pl 6)] _ _ _ _
      refine pm_i_callv (k := (pl 6)) (T2 := pm_mm72) pm_a71_22 rfl rfl rfl (cg_6 hW) ⟨Nat.le_of_ble_eq_true rfl, Nat.le_of_ble_eq_true rfl, rfl, by decide +kernel⟩ ?_
      show pm_E none _ _ 0 [(0, .ref (pl 6)), (1, .int (iI (p + 1)))] [] _ _ _ _
      refine C_endOf hW ⟨by omega, by omega⟩ ?_
      show pm_E _ _ _ 25 [(0, .ref (pl 6)), (1, .int (iI x)), (2, .int (iI p))] [.int (iI (shE a (p + 1))), .ref (pl 6)] _ _ _ _
      refine pm_i_callv (k := (pl 6)) (T2 := pm_mm72) pm_a71_25 rfl rfl rfl (cg_6 hW) ⟨Nat.le_of_ble_eq_true rfl, Nat.le_of_ble_eq_true rfl, rfl, by decide +kernel⟩ ?_
      show pm_E none _ _ 0 [(0, .ref (pl 6)), (1, .int (iI (shE a (p + 1))))] [] _ _ _ _
      refine C_endOf hW (shE_in hin ⟨by omega, by omega⟩) ?_
      show pm_E _ _ _ 28 [(0, .ref (pl 6)), (1, .int (iI x)), (2, .int (iI p))] [.int (iI (shE a (shE a (p + 1))))] _ _ _ _
      refine pm_e_goto pm_a71_28 rfl ?_
      show pm_E _ _ _ 34 [(0, .ref (pl 6)), (1, .int (iI x)), (2, .int (iI p))] [.int (iI (shE a (shE a (p + 1))))] _ _ _ _
      refine pm_e_ret pm_a71_34 rfl rfl rfl rfl rfl rfl rfl rfl ?_
      unfold ebI at k
      rw [if_neg (by omega), if_pos (by omega)] at k
      exact k
  · skip
    show pm_E _ _ _ 5 [(0, .ref (pl 6)), (1, .int (iI x)), (2, .int (iI p))] [] _ _ _ _
    refine pm_e_sim pm_a71_5 rfl ?_
    show pm_E _ _ _ 6 [(0, .ref (pl 6)), (1, .int (iI x)), (2, .int (iI p))] [.ref (pl 6)] _ _ _ _
    refine pm_e_sim pm_a71_6 rfl ?_
    show pm_E _ _ _ 7 [(0, .ref (pl 6)), (1, .int (iI x)), (2, .int (iI p))] [.int (iI p), .ref (pl 6)] _ _ _ _
    refine pm_e_sim pm_a71_7 rfl ?_
    refine pm_e_top (y := iI 1) (by decide +kernel) ?_
    show pm_E _ _ _ 8 [(0, .ref (pl 6)), (1, .int (iI x)), (2, .int (iI p))] [.int (iI 1), .int (iI p), .ref (pl 6)] _ _ _ _
    refine pm_e_sim pm_a71_8 rfl ?_
    refine pm_e_top (y := iI (p + 1)) (iI_add _ _) ?_
    show pm_E _ _ _ 9 [(0, .ref (pl 6)), (1, .int (iI x)), (2, .int (iI p))] [.int (iI (p + 1)), .ref (pl 6)] _ _ _ _
    refine pm_i_callv (k := (pl 6)) (T2 := pm_mm72) pm_a71_9 rfl rfl rfl (cg_6 hW) ⟨Nat.le_of_ble_eq_true rfl, Nat.le_of_ble_eq_true rfl, rfl, by decide +kernel⟩ ?_
    show pm_E none _ _ 0 [(0, .ref (pl 6)), (1, .int (iI (p + 1)))] [] _ _ _ _
    refine C_endOf hW ⟨by omega, by omega⟩ ?_
    show pm_E _ _ _ 12 [(0, .ref (pl 6)), (1, .int (iI x)), (2, .int (iI p))] [.int (iI (shE a (p + 1)))] _ _ _ _
    refine pm_e_ret pm_a71_12 rfl rfl rfl rfl rfl rfl rfl rfl ?_
    unfold ebI at k
    rw [if_pos (by omega)] at k
    exact k
set_option maxHeartbeats 4000000 in
set_option maxRecDepth 100000 in
theorem C_meas_b1 {d n : Nat} {kd pl : Nat → Nat} {s : Nat → Int} {a : Nat → Int → Int} {c : Nat → cdt} {M : List va_E} {Q : Option Value → List va_E → Nat → Nat → Prop} {j : Nat} {x e z i : Int} (hW : wf n kd pl) (hj : j < 38 ∧ al n kd pl (60 + 2 * j)) (hok : okx (rm j) (c j)) (hin : ∀ q, in32 (a 1 q)) (hx0 : 0 ≤ x) (hz : z < 502) (hxi : x ≤ i) (hiz : i ≤ z) (hic : i < (c j).1) (k : pm_E none (d + 2) pm_mm70 17 [(0, .ref (pl 6)), (1, .ref (pl (60 + 2 * j))), (2, .int (iI x)), (3, .int (iI e)), (4, .int (iI z)), (5, .int (iI (i + (-1))))] [] (ch n kd pl s (updA a 1 (updI (a 1) i (ebI a ((c j).2.2 i) i))) c M) 0 0 Q) : pm_E none (d + 2) pm_mm70 17 [(0, .ref (pl 6)), (1, .ref (pl (60 + 2 * j))), (2, .int (iI x)), (3, .int (iI e)), (4, .int (iI z)), (5, .int (iI i))] [] (ch n kd pl s a c M) 0 0 Q := by
  have rb := rm_b j
  obtain ⟨o1, o2, o3, o4⟩ := id hok
  refine pm_e_sim pm_a70_17 rfl ?_
  show pm_E _ _ _ 19 [(0, .ref (pl 6)), (1, .ref (pl (60 + 2 * j))), (2, .int (iI x)), (3, .int (iI e)), (4, .int (iI z)), (5, .int (iI i))] [.int (iI i)] _ _ _ _
  refine pm_e_sim pm_a70_19 rfl ?_
  show pm_E _ _ _ 20 [(0, .ref (pl 6)), (1, .ref (pl (60 + 2 * j))), (2, .int (iI x)), (3, .int (iI e)), (4, .int (iI z)), (5, .int (iI i))] [.int (iI x), .int (iI i)] _ _ _ _
  refine pm_e_sim pm_a70_20 rfl ?_
  refine pm_e_top (y := iI 0) (by decide +kernel) ?_
  show pm_E _ _ _ 21 [(0, .ref (pl 6)), (1, .ref (pl (60 + 2 * j))), (2, .int (iI x)), (3, .int (iI e)), (4, .int (iI z)), (5, .int (iI i))] [.int (iI 0), .int (iI x), .int (iI i)] _ _ _ _
  refine pm_i_max pm_a70_21 rfl (Nat.le_of_ble_eq_true rfl) ⟨by omega, by omega⟩ ⟨by omega, by omega⟩ ?_
  show pm_E _ _ _ 24 [(0, .ref (pl 6)), (1, .ref (pl (60 + 2 * j))), (2, .int (iI x)), (3, .int (iI e)), (4, .int (iI z)), (5, .int (iI i))] [.int (iI (max x 0)), .int (iI i)] _ _ _ _
  refine pm_c_lt (t := 52) pm_a70_24 rfl ⟨by omega, by omega⟩ ⟨by omega, by omega⟩ (fun h_1 => ?_) (fun h_1 => ?_)
  · skip
    exfalso; omega
  · skip
    show pm_E _ _ _ 27 [(0, .ref (pl 6)), (1, .ref (pl (60 + 2 * j))), (2, .int (iI x)), (3, .int (iI e)), (4, .int (iI z)), (5, .int (iI i))] [] _ _ _ _
    refine pm_e_sim pm_a70_27 rfl ?_
    show pm_E _ _ _ 28 [(0, .ref (pl 6)), (1, .ref (pl (60 + 2 * j))), (2, .int (iI x)), (3, .int (iI e)), (4, .int (iI z)), (5, .int (iI i))] [.ref (pl 6)] _ _ _ _
    refine pm_i_get pm_a70_28 rfl (cg_6 hW) rfl ?_
    show pm_E _ _ _ 31 [(0, .ref (pl 6)), (1, .ref (pl (60 + 2 * j))), (2, .int (iI x)), (3, .int (iI e)), (4, .int (iI z)), (5, .int (iI i))] [.ref (pl 7)] _ _ _ _
    refine pm_e_sim pm_a70_31 rfl ?_
    show pm_E _ _ _ 33 [(0, .ref (pl 6)), (1, .ref (pl (60 + 2 * j))), (2, .int (iI x)), (3, .int (iI e)), (4, .int (iI z)), (5, .int (iI i))] [.int (iI i), .ref (pl 7)] _ _ _ _
    refine pm_e_sim pm_a70_33 rfl ?_
    show pm_E _ _ _ 34 [(0, .ref (pl 6)), (1, .ref (pl (60 + 2 * j))), (2, .int (iI x)), (3, .int (iI e)), (4, .int (iI z)), (5, .int (iI i))] [.ref (pl 6), .int (iI i), .ref (pl 7)] _ _ _ _
    refine pm_e_sim pm_a70_34 rfl ?_
    show pm_E _ _ _ 35 [(0, .ref (pl 6)), (1, .ref (pl (60 + 2 * j))), (2, .int (iI x)), (3, .int (iI e)), (4, .int (iI z)), (5, .int (iI i))] [.ref (pl (60 + 2 * j)), .ref (pl 6), .int (iI i), .ref (pl 7)] _ _ _ _
    refine pm_e_sim pm_a70_35 rfl ?_
    show pm_E _ _ _ 37 [(0, .ref (pl 6)), (1, .ref (pl (60 + 2 * j))), (2, .int (iI x)), (3, .int (iI e)), (4, .int (iI z)), (5, .int (iI i))] [.int (iI i), .ref (pl (60 + 2 * j)), .ref (pl 6), .int (iI i), .ref (pl 7)] _ _ _ _
    refine pm_i_callv (k := (pl (60 + 2 * j))) (T2 := pm_mm47) pm_a70_37 rfl rfl rfl (cg_o hj) ⟨Nat.le_of_ble_eq_true rfl, Nat.le_of_ble_eq_true rfl, rfl, by decide +kernel⟩ ?_
    show pm_E none _ _ 0 [(0, .ref (pl (60 + 2 * j))), (1, .int (iI i))] [] _ _ _ _
    refine C_at hW hj rfl hok.1 hok.2.1 ⟨by omega, by omega⟩ ?_
    rw [atI_y (by omega) (by omega)]
    show pm_E _ _ _ 40 [(0, .ref (pl 6)), (1, .ref (pl (60 + 2 * j))), (2, .int (iI x)), (3, .int (iI e)), (4, .int (iI z)), (5, .int (iI i))] [.int (iI ((c j).2.2 i)), .ref (pl 6), .int (iI i), .ref (pl 7)] _ _ _ _
    refine pm_e_sim pm_a70_40 rfl ?_
    show pm_E _ _ _ 42 [(0, .ref (pl 6)), (1, .ref (pl (60 + 2 * j))), (2, .int (iI x)), (3, .int (iI e)), (4, .int (iI z)), (5, .int (iI i))] [.int (iI i), .int (iI ((c j).2.2 i)), .ref (pl 6), .int (iI i), .ref (pl 7)] _ _ _ _
    refine pm_i_callv (k := (pl 6)) (T2 := pm_mm71) pm_a70_42 rfl rfl rfl (cg_6 hW) ⟨Nat.le_of_ble_eq_true rfl, Nat.le_of_ble_eq_true rfl, rfl, by decide +kernel⟩ ?_
    show pm_E none _ _ 0 [(0, .ref (pl 6)), (1, .int (iI ((c j).2.2 i))), (2, .int (iI i))] [] _ _ _ _
    refine C_endBy hW hin (hok.2.2.2 _) ⟨by omega, by omega⟩ ?_
    show pm_E _ _ _ 45 [(0, .ref (pl 6)), (1, .ref (pl (60 + 2 * j))), (2, .int (iI x)), (3, .int (iI e)), (4, .int (iI z)), (5, .int (iI i))] [.int (iI (ebI a ((c j).2.2 i) i)), .int (iI i), .ref (pl 7)] _ _ _ _
    refine pm_i_ast pm_a70_45 (cg_7 hW) (by omega) (by omega) ⟨by omega, by omega⟩ (ca_7 hW _) ?_
    show pm_E _ _ _ 46 [(0, .ref (pl 6)), (1, .ref (pl (60 + 2 * j))), (2, .int (iI x)), (3, .int (iI e)), (4, .int (iI z)), (5, .int (iI i))] [] _ _ _ _
    refine pm_e_inc (y := iI (i + (-1))) pm_a70_46 rfl (iI_add _ _) (by decide +kernel) rfl ?_
    show pm_E _ _ _ 49 [(0, .ref (pl 6)), (1, .ref (pl (60 + 2 * j))), (2, .int (iI x)), (3, .int (iI e)), (4, .int (iI z)), (5, .int (iI (i + (-1))))] [] _ _ _ _
    refine pm_e_goto pm_a70_49 rfl ?_
    show pm_E _ _ _ 17 [(0, .ref (pl 6)), (1, .ref (pl (60 + 2 * j))), (2, .int (iI x)), (3, .int (iI e)), (4, .int (iI z)), (5, .int (iI (i + (-1))))] [] _ _ _ _
    exact k
set_option maxHeartbeats 4000000 in
set_option maxRecDepth 100000 in
theorem C_spreadDepth {d n : Nat} {kd pl : Nat → Nat} {s : Nat → Int} {a : Nat → Int → Int} {c : Nat → cdt} {M : List va_E} {Q : Option Value → List va_E → Nat → Nat → Prop} {c0 p : Int} (hW : wf n kd pl) (hc : in32 c0) (hp : 0 ≤ p ∧ p < 502) (hp1 : c0 = 1 ∨ c0 = 0 → p + 1 < 502) (hm : c0 = 0 → 0 ≤ a 1 (p + 1) ∧ a 1 (p + 1) < 502) (k1 : c0 = 1 → Q none (ch n kd pl s (updA a 2 (updI (a 2) (p + 1) (a 2 p + 1))) c M) 0 0) (k0 : c0 = 0 → Q none (ch n kd pl s (updA a 2 (updI (updI (a 2) (p + 1) (a 2 p)) (a 1 (p + 1)) (a 2 p))) c M) 0 0) (k2 : c0 ≠ 1 → c0 ≠ 0 → Q none (ch n kd pl s a c M) 0 0) : pm_E none (d + 1) pm_mm74 0 [(0, .ref (pl 6)), (1, .int (iI c0)), (2, .int (iI p))] [] (ch n kd pl s a c M) 0 0 Q := by
  obtain ⟨_, _⟩ := hc
  refine pm_e_sim pm_a74_0 rfl ?_
  show pm_E _ _ _ 1 [(0, .ref (pl 6)), (1, .int (iI c0)), (2, .int (iI p))] [.int (iI c0)] _ _ _ _
  refine pm_e_sim pm_a74_1 rfl ?_
  refine pm_e_top (y := iI 1) (by decide +kernel) ?_
  show pm_E _ _ _ 2 [(0, .ref (pl 6)), (1, .int (iI c0)), (2, .int (iI p))] [.int (iI 1), .int (iI c0)] _ _ _ _
  refine pm_c_ne (t := 22) pm_a74_2 rfl ⟨by omega, by omega⟩ ⟨by omega, by omega⟩ (fun h_1 => ?_) (fun h_1 => ?_)
  · skip
    show pm_E _ _ _ 22 [(0, .ref (pl 6)), (1, .int (iI c0)), (2, .int (iI p))] [] _ _ _ _
    refine pm_e_sim pm_a74_22 rfl ?_
    show pm_E _ _ _ 23 [(0, .ref (pl 6)), (1, .int (iI c0)), (2, .int (iI p))] [.int (iI c0)] _ _ _ _
    refine pm_i_ne (t := 54) pm_a74_23 rfl ⟨by omega, by omega⟩ (fun h_2 => ?_) (fun h_2 => ?_)
    · skip
      show pm_E _ _ _ 54 [(0, .ref (pl 6)), (1, .int (iI c0)), (2, .int (iI p))] [] _ _ _ _
      refine pm_e_ret pm_a74_54 rfl rfl rfl rfl rfl rfl rfl rfl ?_
      exact k2 (by omega) (by omega)
    · skip
      show pm_E _ _ _ 26 [(0, .ref (pl 6)), (1, .int (iI c0)), (2, .int (iI p))] [] _ _ _ _
      refine pm_e_sim pm_a74_26 rfl ?_
      show pm_E _ _ _ 27 [(0, .ref (pl 6)), (1, .int (iI c0)), (2, .int (iI p))] [.ref (pl 6)] _ _ _ _
      refine pm_e_sim pm_a74_27 rfl ?_
      show pm_E _ _ _ 28 [(0, .ref (pl 6)), (1, .int (iI c0)), (2, .int (iI p))] [.int (iI p), .ref (pl 6)] _ _ _ _
      refine pm_e_sim pm_a74_28 rfl ?_
      refine pm_e_top (y := iI 1) (by decide +kernel) ?_
      show pm_E _ _ _ 29 [(0, .ref (pl 6)), (1, .int (iI c0)), (2, .int (iI p))] [.int (iI 1), .int (iI p), .ref (pl 6)] _ _ _ _
      refine pm_e_sim pm_a74_29 rfl ?_
      refine pm_e_top (y := iI (p + 1)) (iI_add _ _) ?_
      show pm_E _ _ _ 30 [(0, .ref (pl 6)), (1, .int (iI c0)), (2, .int (iI p))] [.int (iI (p + 1)), .ref (pl 6)] _ _ _ _
      refine pm_e_sim pm_a74_30 rfl ?_
      show pm_E _ _ _ 31 [(0, .ref (pl 6)), (1, .int (iI c0)), (2, .int (iI p))] [.ref (pl 6), .int (iI (p + 1)), .ref (pl 6)] _ _ _ _
      refine pm_e_sim pm_a74_31 rfl ?_
      show pm_E _ _ _ 32 [(0, .ref (pl 6)), (1, .int (iI c0)), (2, .int (iI p))] [.int (iI p), .ref (pl 6), .int (iI (p + 1)), .ref (pl 6)] _ _ _ _
      refine pm_i_callv (k := (pl 6)) (T2 := pm_mm75) pm_a74_32 rfl rfl rfl (cg_6 hW) ⟨Nat.le_of_ble_eq_true rfl, Nat.le_of_ble_eq_true rfl, rfl, by decide +kernel⟩ ?_
      show pm_E none _ _ 0 [(0, .ref (pl 6)), (1, .int (iI p))] [] _ _ _ _
      refine C_depthOf hW ⟨by omega, by omega⟩ ?_
      rw [shD_y (by omega) (by omega)]
      show pm_E _ _ _ 35 [(0, .ref (pl 6)), (1, .int (iI c0)), (2, .int (iI p))] [.int (iI ((a 2) (p))), .int (iI (p + 1)), .ref (pl 6)] _ _ _ _
      refine pm_i_callv (k := (pl 6)) (T2 := pm_mm73) pm_a74_35 rfl rfl rfl (cg_6 hW) ⟨Nat.le_of_ble_eq_true rfl, Nat.le_of_ble_eq_true rfl, rfl, by decide +kernel⟩ ?_
      show pm_E none _ _ 0 [(0, .ref (pl 6)), (1, .int (iI (p + 1))), (2, .int (iI ((a 2) (p))))] [] _ _ _ _
      refine C_putDepth hW ⟨by omega, by omega⟩ (fun _ _ => ?_) (fun hq => by exfalso; omega)
      show pm_E _ _ _ 38 [(0, .ref (pl 6)), (1, .int (iI c0)), (2, .int (iI p))] [] _ _ _ _
      refine pm_e_sim pm_a74_38 rfl ?_
      show pm_E _ _ _ 39 [(0, .ref (pl 6)), (1, .int (iI c0)), (2, .int (iI p))] [.ref (pl 6)] _ _ _ _
      refine pm_e_sim pm_a74_39 rfl ?_
      show pm_E _ _ _ 40 [(0, .ref (pl 6)), (1, .int (iI c0)), (2, .int (iI p))] [.ref (pl 6), .ref (pl 6)] _ _ _ _
      refine pm_e_sim pm_a74_40 rfl ?_
      show pm_E _ _ _ 41 [(0, .ref (pl 6)), (1, .int (iI c0)), (2, .int (iI p))] [.int (iI p), .ref (pl 6), .ref (pl 6)] _ _ _ _
      refine pm_e_sim pm_a74_41 rfl ?_
      refine pm_e_top (y := iI 1) (by decide +kernel) ?_
      show pm_E _ _ _ 42 [(0, .ref (pl 6)), (1, .int (iI c0)), (2, .int (iI p))] [.int (iI 1), .int (iI p), .ref (pl 6), .ref (pl 6)] _ _ _ _
      refine pm_e_sim pm_a74_42 rfl ?_
      refine pm_e_top (y := iI (p + 1)) (iI_add _ _) ?_
      show pm_E _ _ _ 43 [(0, .ref (pl 6)), (1, .int (iI c0)), (2, .int (iI p))] [.int (iI (p + 1)), .ref (pl 6), .ref (pl 6)] _ _ _ _
      refine pm_i_callv (k := (pl 6)) (T2 := pm_mm72) pm_a74_43 rfl rfl rfl (cg_6 hW) ⟨Nat.le_of_ble_eq_true rfl, Nat.le_of_ble_eq_true rfl, rfl, by decide +kernel⟩ ?_
      show pm_E none _ _ 0 [(0, .ref (pl 6)), (1, .int (iI (p + 1)))] [] _ _ _ _
      refine C_endOf hW ⟨by omega, by omega⟩ ?_
      rw [shE_y (by omega) (by omega)]
      show pm_E _ _ _ _ _ (.int (iI (a 1 (p + 1))) :: _) _ _ _ _
      show pm_E _ _ _ 46 [(0, .ref (pl 6)), (1, .int (iI c0)), (2, .int (iI p))] [.int (iI (a 1 (p + 1))), .ref (pl 6)] _ _ _ _
      refine pm_e_sim pm_a74_46 rfl ?_
      show pm_E _ _ _ 47 [(0, .ref (pl 6)), (1, .int (iI c0)), (2, .int (iI p))] [.ref (pl 6), .int (iI (a 1 (p + 1))), .ref (pl 6)] _ _ _ _
      refine pm_e_sim pm_a74_47 rfl ?_
      show pm_E _ _ _ 48 [(0, .ref (pl 6)), (1, .int (iI c0)), (2, .int (iI p))] [.int (iI p), .ref (pl 6), .int (iI (a 1 (p + 1))), .ref (pl 6)] _ _ _ _
      refine pm_i_callv (k := (pl 6)) (T2 := pm_mm75) pm_a74_48 rfl rfl rfl (cg_6 hW) ⟨Nat.le_of_ble_eq_true rfl, Nat.le_of_ble_eq_true rfl, rfl, by decide +kernel⟩ ?_
      show pm_E none _ _ 0 [(0, .ref (pl 6)), (1, .int (iI p))] [] _ _ _ _
      refine C_depthOf hW ⟨by omega, by omega⟩ ?_
      rw [shD_y (by omega) (by omega)]
      show pm_E _ _ _ 51 [(0, .ref (pl 6)), (1, .int (iI c0)), (2, .int (iI p))] [.int (iI ((updI (a 2) (p + 1) ((a 2) (p))) (p))), .int (iI (a 1 (p + 1))), .ref (pl 6)] _ _ _ _
      refine pm_i_callv (k := (pl 6)) (T2 := pm_mm73) pm_a74_51 rfl rfl rfl (cg_6 hW) ⟨Nat.le_of_ble_eq_true rfl, Nat.le_of_ble_eq_true rfl, rfl, by decide +kernel⟩ ?_
      show pm_E none _ _ 0 [(0, .ref (pl 6)), (1, .int (iI (a 1 (p + 1)))), (2, .int (iI ((updI (a 2) (p + 1) ((a 2) (p))) (p))))] [] _ _ _ _
      refine C_putDepth hW ⟨by omega, by omega⟩ (fun _ _ => ?_) (fun hq => by exfalso; omega)
      show pm_E _ _ _ 54 [(0, .ref (pl 6)), (1, .int (iI c0)), (2, .int (iI p))] [] _ _ _ _
      refine pm_e_ret pm_a74_54 rfl rfl rfl rfl rfl rfl rfl rfl ?_
      refine pm_q_heap (show _ = ch n kd pl s (updA a 2 (updI (updI (a 2) (p + 1) (a 2 p)) (a 1 (p + 1)) (a 2 p))) c M from ?_) (k0 (by omega))
      rw [updA_s]
      show ch n kd pl s (updA a 2 (updI (updI (a 2) (p + 1) (a 2 p)) (a 1 (p + 1)) ((updI (a 2) (p + 1) (a 2 p)) p))) c M = _
      rw [updI_n (a 2) (i := p + 1) (j := p) _ (by omega)]
  · skip
    show pm_E _ _ _ 5 [(0, .ref (pl 6)), (1, .int (iI c0)), (2, .int (iI p))] [] _ _ _ _
    refine pm_e_sim pm_a74_5 rfl ?_
    show pm_E _ _ _ 6 [(0, .ref (pl 6)), (1, .int (iI c0)), (2, .int (iI p))] [.ref (pl 6)] _ _ _ _
    refine pm_e_sim pm_a74_6 rfl ?_
    show pm_E _ _ _ 7 [(0, .ref (pl 6)), (1, .int (iI c0)), (2, .int (iI p))] [.int (iI p), .ref (pl 6)] _ _ _ _
    refine pm_e_sim pm_a74_7 rfl ?_
    refine pm_e_top (y := iI 1) (by decide +kernel) ?_
    show pm_E _ _ _ 8 [(0, .ref (pl 6)), (1, .int (iI c0)), (2, .int (iI p))] [.int (iI 1), .int (iI p), .ref (pl 6)] _ _ _ _
    refine pm_e_sim pm_a74_8 rfl ?_
    refine pm_e_top (y := iI (p + 1)) (iI_add _ _) ?_
    show pm_E _ _ _ 9 [(0, .ref (pl 6)), (1, .int (iI c0)), (2, .int (iI p))] [.int (iI (p + 1)), .ref (pl 6)] _ _ _ _
    refine pm_e_sim pm_a74_9 rfl ?_
    show pm_E _ _ _ 10 [(0, .ref (pl 6)), (1, .int (iI c0)), (2, .int (iI p))] [.ref (pl 6), .int (iI (p + 1)), .ref (pl 6)] _ _ _ _
    refine pm_e_sim pm_a74_10 rfl ?_
    show pm_E _ _ _ 11 [(0, .ref (pl 6)), (1, .int (iI c0)), (2, .int (iI p))] [.int (iI p), .ref (pl 6), .int (iI (p + 1)), .ref (pl 6)] _ _ _ _
    refine pm_i_callv (k := (pl 6)) (T2 := pm_mm75) pm_a74_11 rfl rfl rfl (cg_6 hW) ⟨Nat.le_of_ble_eq_true rfl, Nat.le_of_ble_eq_true rfl, rfl, by decide +kernel⟩ ?_
    show pm_E none _ _ 0 [(0, .ref (pl 6)), (1, .int (iI p))] [] _ _ _ _
    refine C_depthOf hW ⟨by omega, by omega⟩ ?_
    rw [shD_y (by omega) (by omega)]
    show pm_E _ _ _ 14 [(0, .ref (pl 6)), (1, .int (iI c0)), (2, .int (iI p))] [.int (iI ((a 2) (p))), .int (iI (p + 1)), .ref (pl 6)] _ _ _ _
    refine pm_e_sim pm_a74_14 rfl ?_
    refine pm_e_top (y := iI 1) (by decide +kernel) ?_
    show pm_E _ _ _ 15 [(0, .ref (pl 6)), (1, .int (iI c0)), (2, .int (iI p))] [.int (iI 1), .int (iI ((a 2) (p))), .int (iI (p + 1)), .ref (pl 6)] _ _ _ _
    refine pm_e_sim pm_a74_15 rfl ?_
    refine pm_e_top (y := iI ((a 2) (p) + 1)) (iI_add _ _) ?_
    show pm_E _ _ _ 16 [(0, .ref (pl 6)), (1, .int (iI c0)), (2, .int (iI p))] [.int (iI ((a 2) (p) + 1)), .int (iI (p + 1)), .ref (pl 6)] _ _ _ _
    refine pm_i_callv (k := (pl 6)) (T2 := pm_mm73) pm_a74_16 rfl rfl rfl (cg_6 hW) ⟨Nat.le_of_ble_eq_true rfl, Nat.le_of_ble_eq_true rfl, rfl, by decide +kernel⟩ ?_
    show pm_E none _ _ 0 [(0, .ref (pl 6)), (1, .int (iI (p + 1))), (2, .int (iI ((a 2) (p) + 1)))] [] _ _ _ _
    refine C_putDepth hW ⟨by omega, by omega⟩ (fun _ _ => ?_) (fun hq => by exfalso; omega)
    show pm_E _ _ _ 19 [(0, .ref (pl 6)), (1, .int (iI c0)), (2, .int (iI p))] [] _ _ _ _
    refine pm_e_goto pm_a74_19 rfl ?_
    show pm_E _ _ _ 54 [(0, .ref (pl 6)), (1, .int (iI c0)), (2, .int (iI p))] [] _ _ _ _
    refine pm_e_ret pm_a74_54 rfl rfl rfl rfl rfl rfl rfl rfl ?_
    exact k1 (by omega)
