/-! THE JDK: indexOf and charAt of the String SKIFX -/
def ixS (c : Int) : Int := if c = 83 then 0 else if c = 75 then 1 else if c = 73 then 2 else if c = 70 then 3 else if c = 88 then 4 else -1
theorem i2b_eq : ∀ c : Fin 256, ∀ v ∈ [83, 75, 73, 70, 88], pm_cz .ne (Int32.ofInt (v : Int)) (Int32.ofInt (c.val : Int)).toInt8.toInt32 = !decide ((c.val : Int) = v) := by decide +kernel
theorem i2b_t {c : Int} (h0 : 0 ≤ c) (h1 : c < 256) {v : Int} (hv : v ∈ [83, 75, 73, 70, 88]) (h : c = v) : pm_cz .ne (iI v) (iI c).toInt8.toInt32 = false := by
  have := i2b_eq ⟨c.toNat, by omega⟩ v hv
  rw [show ((c.toNat : Nat) : Int) = c by omega] at this
  exact this.trans (by rw [decide_eq_true h]; rfl)
theorem i2b_f {c : Int} (h0 : 0 ≤ c) (h1 : c < 256) {v : Int} (hv : v ∈ [83, 75, 73, 70, 88]) (h : c ≠ v) : pm_cz .ne (iI v) (iI c).toInt8.toInt32 = true := by
  have := i2b_eq ⟨c.toNat, by omega⟩ v hv
  rw [show ((c.toNat : Nat) : Int) = c by omega] at this
  exact this.trans (by rw [decide_eq_false h]; rfl)
set_option maxHeartbeats 4000000 in
set_option maxRecDepth 100000 in
theorem J_lat1 {d : Nat} {ph : List va_E} {Q : Option Value → List va_E → Nat → Nat → Prop} (k : Q (some (.int (iI 1))) ph 0 0) : pm_E none d pm_mm217 0 [(0, .retAddr 1)] [] ph 0 0 Q := by
  refine pm_e_rd (st2 := [.int 1]) pm_a217_0 rfl rfl rfl ?_
  show pm_E _ _ _ 3 [(0, .retAddr 1)] [.int 1] _ _ _ _
  refine pm_e_iff pm_a217_3 rfl (by decide +kernel) ?_
  show pm_E _ _ _ 6 [(0, .retAddr 1)] [] _ _ _ _
  refine pm_e_sim pm_a217_6 rfl ?_
  show pm_E _ _ _ 7 [(0, .retAddr 1)] [.retAddr 1] _ _ _ _
  refine pm_e_rd (st2 := [.int 0]) pm_a217_7 rfl rfl rfl ?_
  show pm_E _ _ _ 10 [(0, .retAddr 1)] [.int 0] _ _ _ _
  refine pm_e_iff pm_a217_10 rfl (by decide +kernel) ?_
  show pm_E _ _ _ 13 [(0, .retAddr 1)] [] _ _ _ _
  refine pm_e_sim pm_a217_13 rfl ?_
  refine pm_e_top (y := iI 1) (by decide +kernel) ?_
  show pm_E _ _ _ 14 [(0, .retAddr 1)] [.int (iI 1)] _ _ _ _
  refine pm_e_goto pm_a217_14 rfl ?_
  show pm_E _ _ _ 18 [(0, .retAddr 1)] [.int (iI 1)] _ _ _ _
  refine pm_e_ret pm_a217_18 rfl rfl rfl rfl rfl rfl rfl rfl ?_
  exact k
set_option maxHeartbeats 4000000 in
set_option maxRecDepth 100000 in
theorem J_lat3 {d : Nat} {ph : List va_E} {Q : Option Value → List va_E → Nat → Nat → Prop} (k : Q (some (.int (iI 1))) ph 0 0) : pm_E none d pm_mm217 0 [(0, .retAddr 3)] [] ph 0 0 Q := by
  refine pm_e_rd (st2 := [.int 1]) pm_a217_0 rfl rfl rfl ?_
  show pm_E _ _ _ 3 [(0, .retAddr 3)] [.int 1] _ _ _ _
  refine pm_e_iff pm_a217_3 rfl (by decide +kernel) ?_
  show pm_E _ _ _ 6 [(0, .retAddr 3)] [] _ _ _ _
  refine pm_e_sim pm_a217_6 rfl ?_
  show pm_E _ _ _ 7 [(0, .retAddr 3)] [.retAddr 3] _ _ _ _
  refine pm_e_rd (st2 := [.int 0]) pm_a217_7 rfl rfl rfl ?_
  show pm_E _ _ _ 10 [(0, .retAddr 3)] [.int 0] _ _ _ _
  refine pm_e_iff pm_a217_10 rfl (by decide +kernel) ?_
  show pm_E _ _ _ 13 [(0, .retAddr 3)] [] _ _ _ _
  refine pm_e_sim pm_a217_13 rfl ?_
  refine pm_e_top (y := iI 1) (by decide +kernel) ?_
  show pm_E _ _ _ 14 [(0, .retAddr 3)] [.int (iI 1)] _ _ _ _
  refine pm_e_goto pm_a217_14 rfl ?_
  show pm_E _ _ _ 18 [(0, .retAddr 3)] [.int (iI 1)] _ _ _ _
  refine pm_e_ret pm_a217_18 rfl rfl rfl rfl rfl rfl rfl rfl ?_
  exact k
set_option maxHeartbeats 4000000 in
set_option maxRecDepth 100000 in
theorem J_coder {d : Nat} {ph : List va_E} {Q : Option Value → List va_E → Nat → Nat → Prop} (k : Q (some (.int 0)) ph 0 0) : pm_E none d pm_mm219 0 [(0, .retAddr 1)] [] ph 0 0 Q := by
  refine pm_e_rd (st2 := [.int 1]) pm_a219_0 rfl rfl rfl ?_
  show pm_E _ _ _ 3 [(0, .retAddr 1)] [.int 1] _ _ _ _
  refine pm_e_iff pm_a219_3 rfl (by decide +kernel) ?_
  show pm_E _ _ _ 6 [(0, .retAddr 1)] [] _ _ _ _
  refine pm_e_sim pm_a219_6 rfl ?_
  show pm_E _ _ _ 7 [(0, .retAddr 1)] [.retAddr 1] _ _ _ _
  refine pm_e_rd (st2 := [.int 0]) pm_a219_7 rfl rfl rfl ?_
  show pm_E _ _ _ 10 [(0, .retAddr 1)] [.int 0] _ _ _ _
  refine pm_e_goto pm_a219_10 rfl ?_
  show pm_E _ _ _ 14 [(0, .retAddr 1)] [.int 0] _ _ _ _
  refine pm_e_ret pm_a219_14 rfl rfl rfl rfl rfl rfl rfl rfl ?_
  exact k
set_option maxHeartbeats 4000000 in
set_option maxRecDepth 100000 in
theorem J_length {d : Nat} {ph : List va_E} {Q : Option Value → List va_E → Nat → Nat → Prop} (k : Q (some (.int (iI 5))) ph 0 0) : pm_E none (d + 1) pm_mm218 0 [(0, .retAddr 1)] [] ph 0 0 Q := by
  refine pm_e_sim pm_a218_0 rfl ?_
  show pm_E _ _ _ 1 [(0, .retAddr 1)] [.retAddr 1] _ _ _ _
  refine pm_e_rd (st2 := [.retAddr 2]) pm_a218_1 rfl rfl rfl ?_
  show pm_E _ _ _ 4 [(0, .retAddr 1)] [.retAddr 2] _ _ _ _
  refine pm_e_rd (st2 := [.int 5]) pm_a218_4 rfl rfl rfl ?_
  show pm_E _ _ _ 5 [(0, .retAddr 1)] [.int 5] _ _ _ _
  refine pm_e_sim pm_a218_5 rfl ?_
  show pm_E _ _ _ 6 [(0, .retAddr 1)] [.retAddr 1, .int 5] _ _ _ _
  refine pm_e_call (T2 := pm_mm219) pm_a218_6 rfl rfl rfl rfl rfl rfl rfl rfl rfl ?_
  refine J_coder ?_
  show pm_E _ _ _ 9 [(0, .retAddr 1)] [.int 0, .int 5] _ _ _ _
  refine pm_e_sim pm_a218_9 rfl ?_
  refine pm_e_top (y := iI 5) (by decide +kernel) ?_
  show pm_E _ _ _ 10 [(0, .retAddr 1)] [.int (iI 5)] _ _ _ _
  refine pm_e_ret pm_a218_10 rfl rfl rfl rfl rfl rfl rfl rfl ?_
  exact k
set_option maxHeartbeats 4000000 in
set_option maxRecDepth 100000 in
theorem J_can {d : Nat} {ph : List va_E} {Q : Option Value → List va_E → Nat → Nat → Prop} {c : Int} (hc : in32 c) (k1 : 0 ≤ c → c < 256 → Q (some (.int (iI 1))) ph 0 0) (k0 : c < 0 ∨ 255 < c → Q (some (.int (iI 0))) ph 0 0) : pm_E none d pm_mm221 0 [(0, .int (iI c))] [] ph 0 0 Q := by
  refine pm_e_sim pm_a221_0 rfl ?_
  show pm_E _ _ _ 1 [(0, .int (iI c))] [.int (iI c)] _ _ _ _
  refine pm_i_lt (t := 15) pm_a221_1 rfl hc (fun h1 => ?_) (fun h1 => ?_)
  · show pm_E _ _ _ 15 [(0, .int (iI c))] [] _ _ _ _
    refine pm_e_sim pm_a221_15 rfl ?_
    refine pm_e_top (y := iI 0) (by decide +kernel) ?_
    show pm_E _ _ _ 16 [(0, .int (iI c))] [.int (iI 0)] _ _ _ _
    refine pm_e_ret pm_a221_16 rfl rfl rfl rfl rfl rfl rfl rfl ?_
    exact k0 (by omega)
  show pm_E _ _ _ 4 [(0, .int (iI c))] [] _ _ _ _
  refine pm_e_sim pm_a221_4 rfl ?_
  show pm_E _ _ _ 5 [(0, .int (iI c))] [.int (iI c)] _ _ _ _
  refine pm_e_sim pm_a221_5 rfl ?_
  refine pm_e_top (y := iI 255) (by decide +kernel) ?_
  show pm_E _ _ _ 8 [(0, .int (iI c))] [.int (iI 255), .int (iI c)] _ _ _ _
  refine pm_c_gt (t := 15) pm_a221_8 rfl hc ⟨by omega, by omega⟩ (fun h2 => ?_) (fun h2 => ?_)
  · show pm_E _ _ _ 15 [(0, .int (iI c))] [] _ _ _ _
    refine pm_e_sim pm_a221_15 rfl ?_
    refine pm_e_top (y := iI 0) (by decide +kernel) ?_
    show pm_E _ _ _ 16 [(0, .int (iI c))] [.int (iI 0)] _ _ _ _
    refine pm_e_ret pm_a221_16 rfl rfl rfl rfl rfl rfl rfl rfl ?_
    exact k0 (by omega)
  show pm_E _ _ _ 11 [(0, .int (iI c))] [] _ _ _ _
  refine pm_e_sim pm_a221_11 rfl ?_
  refine pm_e_top (y := iI 1) (by decide +kernel) ?_
  show pm_E _ _ _ 12 [(0, .int (iI c))] [.int (iI 1)] _ _ _ _
  refine pm_e_goto pm_a221_12 rfl ?_
  show pm_E _ _ _ 16 [(0, .int (iI c))] [.int (iI 1)] _ _ _ _
  refine pm_e_ret pm_a221_16 rfl rfl rfl rfl rfl rfl rfl rfl ?_
  exact k1 (by omega) (by omega)
set_option maxHeartbeats 4000000 in
set_option maxRecDepth 100000 in
theorem J_ixc {d : Nat} {ph : List va_E} {Q : Option Value → List va_E → Nat → Nat → Prop} {c : Int} (h0 : 0 ≤ c) (h1 : c < 256) (k : Q (some (.int (iI (ixS c)))) ph 0 0) : pm_E none d pm_mm222 0 [(0, .retAddr 2), (1, .int (iI c)), (2, .int (iI 0)), (3, .int (iI 5))] [] ph 0 0 Q := by
  refine pm_e_sim pm_a222_0 rfl ?_
  show pm_E _ _ _ 1 [(0, .retAddr 2), (1, .int (iI c)), (2, .int (iI 0)), (3, .int (iI 5))] [.int (iI c)] _ _ _ _
  refine pm_e_sim pm_a222_1 rfl ?_
  show pm_E _ _ _ 2 [(0, .retAddr 2), (1, .int (iI c)), (2, .int (iI 0)), (3, .int (iI 5))] [.int (iI c).toInt8.toInt32] _ _ _ _
  refine pm_e_sim pm_a222_2 rfl ?_
  show pm_E _ _ _ 4 [(0, .retAddr 2), (1, .int (iI c)), (2, .int (iI 0)), (3, .int (iI 5)), (4, .int (iI c).toInt8.toInt32)] [] _ _ _ _
  refine pm_e_sim pm_a222_4 rfl ?_
  show pm_E _ _ _ 5 [(0, .retAddr 2), (1, .int (iI c)), (2, .int (iI 0)), (3, .int (iI 5)), (4, .int (iI c).toInt8.toInt32)] [.int (iI 0)] _ _ _ _
  refine pm_e_sim pm_a222_5 rfl ?_
  show pm_E _ _ _ 7 [(0, .retAddr 2), (1, .int (iI c)), (2, .int (iI 0)), (3, .int (iI 5)), (4, .int (iI c).toInt8.toInt32), (5, .int (iI 0))] [] _ _ _ _
  refine pm_e_sim pm_a222_7 rfl ?_
  show pm_E _ _ _ 9 [(0, .retAddr 2), (1, .int (iI c)), (2, .int (iI 0)), (3, .int (iI 5)), (4, .int (iI c).toInt8.toInt32), (5, .int (iI 0))] [.int (iI 0)] _ _ _ _
  refine pm_e_sim pm_a222_9 rfl ?_
  show pm_E _ _ _ 10 [(0, .retAddr 2), (1, .int (iI c)), (2, .int (iI 0)), (3, .int (iI 5)), (4, .int (iI c).toInt8.toInt32), (5, .int (iI 0))] [.int (iI 5), .int (iI 0)] _ _ _ _
  refine pm_e_icf pm_a222_10 rfl (by decide +kernel) ?_
  show pm_E _ _ _ 13 [(0, .retAddr 2), (1, .int (iI c)), (2, .int (iI 0)), (3, .int (iI 5)), (4, .int (iI c).toInt8.toInt32), (5, .int (iI 0))] [] _ _ _ _
  refine pm_e_sim pm_a222_13 rfl ?_
  show pm_E _ _ _ 14 [(0, .retAddr 2), (1, .int (iI c)), (2, .int (iI 0)), (3, .int (iI 5)), (4, .int (iI c).toInt8.toInt32), (5, .int (iI 0))] [.retAddr 2] _ _ _ _
  refine pm_e_sim pm_a222_14 rfl ?_
  show pm_E _ _ _ 16 [(0, .retAddr 2), (1, .int (iI c)), (2, .int (iI 0)), (3, .int (iI 5)), (4, .int (iI c).toInt8.toInt32), (5, .int (iI 0))] [.int (iI 0), .retAddr 2] _ _ _ _
  refine pm_e_rd (st2 := [.int (iI 83)]) pm_a222_16 rfl rfl (by show ((pm_ix (iI 0) 5).bind fun j => some (Value.int (pm_b5 j) :: [])) = _; rw [show pm_ix (iI 0) 5 = some 0 from by decide +kernel]; show some [Value.int (pm_b5 0)] = _; rw [show pm_b5 0 = iI 83 from by decide +kernel]) ?_
  show pm_E _ _ _ 17 [(0, .retAddr 2), (1, .int (iI c)), (2, .int (iI 0)), (3, .int (iI 5)), (4, .int (iI c).toInt8.toInt32), (5, .int (iI 0))] [.int (iI 83)] _ _ _ _
  refine pm_e_sim pm_a222_17 rfl ?_
  show pm_E _ _ _ 19 [(0, .retAddr 2), (1, .int (iI c)), (2, .int (iI 0)), (3, .int (iI 5)), (4, .int (iI c).toInt8.toInt32), (5, .int (iI 0))] [.int (iI c).toInt8.toInt32, .int (iI 83)] _ _ _ _
  by_cases e0 : c = 83
  · refine pm_e_icf pm_a222_19 rfl (i2b_t h0 h1 (by decide) e0) ?_
    show pm_E _ _ _ 22 [(0, .retAddr 2), (1, .int (iI c)), (2, .int (iI 0)), (3, .int (iI 5)), (4, .int (iI c).toInt8.toInt32), (5, .int (iI 0))] [] _ _ _ _
    refine pm_e_sim pm_a222_22 rfl ?_
    show pm_E _ _ _ 24 [(0, .retAddr 2), (1, .int (iI c)), (2, .int (iI 0)), (3, .int (iI 5)), (4, .int (iI c).toInt8.toInt32), (5, .int (iI 0))] [.int (iI 0)] _ _ _ _
    refine pm_e_ret pm_a222_24 rfl rfl rfl rfl rfl rfl rfl rfl ?_
    have e9 : ixS c = 0 := by unfold ixS; rw [if_pos e0]
    rw [e9] at k
    exact k
  refine pm_e_ict pm_a222_19 rfl (i2b_f h0 h1 (by decide) e0) ?_
  show pm_E _ _ _ 25 [(0, .retAddr 2), (1, .int (iI c)), (2, .int (iI 0)), (3, .int (iI 5)), (4, .int (iI c).toInt8.toInt32), (5, .int (iI 0))] [] _ _ _ _
  refine pm_e_inc (y := iI 1) pm_a222_25 rfl (by decide +kernel) (by decide +kernel) rfl ?_
  show pm_E _ _ _ 28 [(0, .retAddr 2), (1, .int (iI c)), (2, .int (iI 0)), (3, .int (iI 5)), (4, .int (iI c).toInt8.toInt32), (5, .int (iI 1))] [] _ _ _ _
  refine pm_e_goto pm_a222_28 rfl ?_
  show pm_E _ _ _ 7 [(0, .retAddr 2), (1, .int (iI c)), (2, .int (iI 0)), (3, .int (iI 5)), (4, .int (iI c).toInt8.toInt32), (5, .int (iI 1))] [] _ _ _ _
  refine pm_e_sim pm_a222_7 rfl ?_
  show pm_E _ _ _ 9 [(0, .retAddr 2), (1, .int (iI c)), (2, .int (iI 0)), (3, .int (iI 5)), (4, .int (iI c).toInt8.toInt32), (5, .int (iI 1))] [.int (iI 1)] _ _ _ _
  refine pm_e_sim pm_a222_9 rfl ?_
  show pm_E _ _ _ 10 [(0, .retAddr 2), (1, .int (iI c)), (2, .int (iI 0)), (3, .int (iI 5)), (4, .int (iI c).toInt8.toInt32), (5, .int (iI 1))] [.int (iI 5), .int (iI 1)] _ _ _ _
  refine pm_e_icf pm_a222_10 rfl (by decide +kernel) ?_
  show pm_E _ _ _ 13 [(0, .retAddr 2), (1, .int (iI c)), (2, .int (iI 0)), (3, .int (iI 5)), (4, .int (iI c).toInt8.toInt32), (5, .int (iI 1))] [] _ _ _ _
  refine pm_e_sim pm_a222_13 rfl ?_
  show pm_E _ _ _ 14 [(0, .retAddr 2), (1, .int (iI c)), (2, .int (iI 0)), (3, .int (iI 5)), (4, .int (iI c).toInt8.toInt32), (5, .int (iI 1))] [.retAddr 2] _ _ _ _
  refine pm_e_sim pm_a222_14 rfl ?_
  show pm_E _ _ _ 16 [(0, .retAddr 2), (1, .int (iI c)), (2, .int (iI 0)), (3, .int (iI 5)), (4, .int (iI c).toInt8.toInt32), (5, .int (iI 1))] [.int (iI 1), .retAddr 2] _ _ _ _
  refine pm_e_rd (st2 := [.int (iI 75)]) pm_a222_16 rfl rfl (by show ((pm_ix (iI 1) 5).bind fun j => some (Value.int (pm_b5 j) :: [])) = _; rw [show pm_ix (iI 1) 5 = some 1 from by decide +kernel]; show some [Value.int (pm_b5 1)] = _; rw [show pm_b5 1 = iI 75 from by decide +kernel]) ?_
  show pm_E _ _ _ 17 [(0, .retAddr 2), (1, .int (iI c)), (2, .int (iI 0)), (3, .int (iI 5)), (4, .int (iI c).toInt8.toInt32), (5, .int (iI 1))] [.int (iI 75)] _ _ _ _
  refine pm_e_sim pm_a222_17 rfl ?_
  show pm_E _ _ _ 19 [(0, .retAddr 2), (1, .int (iI c)), (2, .int (iI 0)), (3, .int (iI 5)), (4, .int (iI c).toInt8.toInt32), (5, .int (iI 1))] [.int (iI c).toInt8.toInt32, .int (iI 75)] _ _ _ _
  by_cases e1 : c = 75
  · refine pm_e_icf pm_a222_19 rfl (i2b_t h0 h1 (by decide) e1) ?_
    show pm_E _ _ _ 22 [(0, .retAddr 2), (1, .int (iI c)), (2, .int (iI 0)), (3, .int (iI 5)), (4, .int (iI c).toInt8.toInt32), (5, .int (iI 1))] [] _ _ _ _
    refine pm_e_sim pm_a222_22 rfl ?_
    show pm_E _ _ _ 24 [(0, .retAddr 2), (1, .int (iI c)), (2, .int (iI 0)), (3, .int (iI 5)), (4, .int (iI c).toInt8.toInt32), (5, .int (iI 1))] [.int (iI 1)] _ _ _ _
    refine pm_e_ret pm_a222_24 rfl rfl rfl rfl rfl rfl rfl rfl ?_
    have e9 : ixS c = 1 := by unfold ixS; rw [if_neg e0, if_pos e1]
    rw [e9] at k
    exact k
  refine pm_e_ict pm_a222_19 rfl (i2b_f h0 h1 (by decide) e1) ?_
  show pm_E _ _ _ 25 [(0, .retAddr 2), (1, .int (iI c)), (2, .int (iI 0)), (3, .int (iI 5)), (4, .int (iI c).toInt8.toInt32), (5, .int (iI 1))] [] _ _ _ _
  refine pm_e_inc (y := iI 2) pm_a222_25 rfl (by decide +kernel) (by decide +kernel) rfl ?_
  show pm_E _ _ _ 28 [(0, .retAddr 2), (1, .int (iI c)), (2, .int (iI 0)), (3, .int (iI 5)), (4, .int (iI c).toInt8.toInt32), (5, .int (iI 2))] [] _ _ _ _
  refine pm_e_goto pm_a222_28 rfl ?_
  show pm_E _ _ _ 7 [(0, .retAddr 2), (1, .int (iI c)), (2, .int (iI 0)), (3, .int (iI 5)), (4, .int (iI c).toInt8.toInt32), (5, .int (iI 2))] [] _ _ _ _
  refine pm_e_sim pm_a222_7 rfl ?_
  show pm_E _ _ _ 9 [(0, .retAddr 2), (1, .int (iI c)), (2, .int (iI 0)), (3, .int (iI 5)), (4, .int (iI c).toInt8.toInt32), (5, .int (iI 2))] [.int (iI 2)] _ _ _ _
  refine pm_e_sim pm_a222_9 rfl ?_
  show pm_E _ _ _ 10 [(0, .retAddr 2), (1, .int (iI c)), (2, .int (iI 0)), (3, .int (iI 5)), (4, .int (iI c).toInt8.toInt32), (5, .int (iI 2))] [.int (iI 5), .int (iI 2)] _ _ _ _
  refine pm_e_icf pm_a222_10 rfl (by decide +kernel) ?_
  show pm_E _ _ _ 13 [(0, .retAddr 2), (1, .int (iI c)), (2, .int (iI 0)), (3, .int (iI 5)), (4, .int (iI c).toInt8.toInt32), (5, .int (iI 2))] [] _ _ _ _
  refine pm_e_sim pm_a222_13 rfl ?_
  show pm_E _ _ _ 14 [(0, .retAddr 2), (1, .int (iI c)), (2, .int (iI 0)), (3, .int (iI 5)), (4, .int (iI c).toInt8.toInt32), (5, .int (iI 2))] [.retAddr 2] _ _ _ _
  refine pm_e_sim pm_a222_14 rfl ?_
  show pm_E _ _ _ 16 [(0, .retAddr 2), (1, .int (iI c)), (2, .int (iI 0)), (3, .int (iI 5)), (4, .int (iI c).toInt8.toInt32), (5, .int (iI 2))] [.int (iI 2), .retAddr 2] _ _ _ _
  refine pm_e_rd (st2 := [.int (iI 73)]) pm_a222_16 rfl rfl (by show ((pm_ix (iI 2) 5).bind fun j => some (Value.int (pm_b5 j) :: [])) = _; rw [show pm_ix (iI 2) 5 = some 2 from by decide +kernel]; show some [Value.int (pm_b5 2)] = _; rw [show pm_b5 2 = iI 73 from by decide +kernel]) ?_
  show pm_E _ _ _ 17 [(0, .retAddr 2), (1, .int (iI c)), (2, .int (iI 0)), (3, .int (iI 5)), (4, .int (iI c).toInt8.toInt32), (5, .int (iI 2))] [.int (iI 73)] _ _ _ _
  refine pm_e_sim pm_a222_17 rfl ?_
  show pm_E _ _ _ 19 [(0, .retAddr 2), (1, .int (iI c)), (2, .int (iI 0)), (3, .int (iI 5)), (4, .int (iI c).toInt8.toInt32), (5, .int (iI 2))] [.int (iI c).toInt8.toInt32, .int (iI 73)] _ _ _ _
  by_cases e2 : c = 73
  · refine pm_e_icf pm_a222_19 rfl (i2b_t h0 h1 (by decide) e2) ?_
    show pm_E _ _ _ 22 [(0, .retAddr 2), (1, .int (iI c)), (2, .int (iI 0)), (3, .int (iI 5)), (4, .int (iI c).toInt8.toInt32), (5, .int (iI 2))] [] _ _ _ _
    refine pm_e_sim pm_a222_22 rfl ?_
    show pm_E _ _ _ 24 [(0, .retAddr 2), (1, .int (iI c)), (2, .int (iI 0)), (3, .int (iI 5)), (4, .int (iI c).toInt8.toInt32), (5, .int (iI 2))] [.int (iI 2)] _ _ _ _
    refine pm_e_ret pm_a222_24 rfl rfl rfl rfl rfl rfl rfl rfl ?_
    have e9 : ixS c = 2 := by unfold ixS; rw [if_neg e0, if_neg e1, if_pos e2]
    rw [e9] at k
    exact k
  refine pm_e_ict pm_a222_19 rfl (i2b_f h0 h1 (by decide) e2) ?_
  show pm_E _ _ _ 25 [(0, .retAddr 2), (1, .int (iI c)), (2, .int (iI 0)), (3, .int (iI 5)), (4, .int (iI c).toInt8.toInt32), (5, .int (iI 2))] [] _ _ _ _
  refine pm_e_inc (y := iI 3) pm_a222_25 rfl (by decide +kernel) (by decide +kernel) rfl ?_
  show pm_E _ _ _ 28 [(0, .retAddr 2), (1, .int (iI c)), (2, .int (iI 0)), (3, .int (iI 5)), (4, .int (iI c).toInt8.toInt32), (5, .int (iI 3))] [] _ _ _ _
  refine pm_e_goto pm_a222_28 rfl ?_
  show pm_E _ _ _ 7 [(0, .retAddr 2), (1, .int (iI c)), (2, .int (iI 0)), (3, .int (iI 5)), (4, .int (iI c).toInt8.toInt32), (5, .int (iI 3))] [] _ _ _ _
  refine pm_e_sim pm_a222_7 rfl ?_
  show pm_E _ _ _ 9 [(0, .retAddr 2), (1, .int (iI c)), (2, .int (iI 0)), (3, .int (iI 5)), (4, .int (iI c).toInt8.toInt32), (5, .int (iI 3))] [.int (iI 3)] _ _ _ _
  refine pm_e_sim pm_a222_9 rfl ?_
  show pm_E _ _ _ 10 [(0, .retAddr 2), (1, .int (iI c)), (2, .int (iI 0)), (3, .int (iI 5)), (4, .int (iI c).toInt8.toInt32), (5, .int (iI 3))] [.int (iI 5), .int (iI 3)] _ _ _ _
  refine pm_e_icf pm_a222_10 rfl (by decide +kernel) ?_
  show pm_E _ _ _ 13 [(0, .retAddr 2), (1, .int (iI c)), (2, .int (iI 0)), (3, .int (iI 5)), (4, .int (iI c).toInt8.toInt32), (5, .int (iI 3))] [] _ _ _ _
  refine pm_e_sim pm_a222_13 rfl ?_
  show pm_E _ _ _ 14 [(0, .retAddr 2), (1, .int (iI c)), (2, .int (iI 0)), (3, .int (iI 5)), (4, .int (iI c).toInt8.toInt32), (5, .int (iI 3))] [.retAddr 2] _ _ _ _
  refine pm_e_sim pm_a222_14 rfl ?_
  show pm_E _ _ _ 16 [(0, .retAddr 2), (1, .int (iI c)), (2, .int (iI 0)), (3, .int (iI 5)), (4, .int (iI c).toInt8.toInt32), (5, .int (iI 3))] [.int (iI 3), .retAddr 2] _ _ _ _
  refine pm_e_rd (st2 := [.int (iI 70)]) pm_a222_16 rfl rfl (by show ((pm_ix (iI 3) 5).bind fun j => some (Value.int (pm_b5 j) :: [])) = _; rw [show pm_ix (iI 3) 5 = some 3 from by decide +kernel]; show some [Value.int (pm_b5 3)] = _; rw [show pm_b5 3 = iI 70 from by decide +kernel]) ?_
  show pm_E _ _ _ 17 [(0, .retAddr 2), (1, .int (iI c)), (2, .int (iI 0)), (3, .int (iI 5)), (4, .int (iI c).toInt8.toInt32), (5, .int (iI 3))] [.int (iI 70)] _ _ _ _
  refine pm_e_sim pm_a222_17 rfl ?_
  show pm_E _ _ _ 19 [(0, .retAddr 2), (1, .int (iI c)), (2, .int (iI 0)), (3, .int (iI 5)), (4, .int (iI c).toInt8.toInt32), (5, .int (iI 3))] [.int (iI c).toInt8.toInt32, .int (iI 70)] _ _ _ _
  by_cases e3 : c = 70
  · refine pm_e_icf pm_a222_19 rfl (i2b_t h0 h1 (by decide) e3) ?_
    show pm_E _ _ _ 22 [(0, .retAddr 2), (1, .int (iI c)), (2, .int (iI 0)), (3, .int (iI 5)), (4, .int (iI c).toInt8.toInt32), (5, .int (iI 3))] [] _ _ _ _
    refine pm_e_sim pm_a222_22 rfl ?_
    show pm_E _ _ _ 24 [(0, .retAddr 2), (1, .int (iI c)), (2, .int (iI 0)), (3, .int (iI 5)), (4, .int (iI c).toInt8.toInt32), (5, .int (iI 3))] [.int (iI 3)] _ _ _ _
    refine pm_e_ret pm_a222_24 rfl rfl rfl rfl rfl rfl rfl rfl ?_
    have e9 : ixS c = 3 := by unfold ixS; rw [if_neg e0, if_neg e1, if_neg e2, if_pos e3]
    rw [e9] at k
    exact k
  refine pm_e_ict pm_a222_19 rfl (i2b_f h0 h1 (by decide) e3) ?_
  show pm_E _ _ _ 25 [(0, .retAddr 2), (1, .int (iI c)), (2, .int (iI 0)), (3, .int (iI 5)), (4, .int (iI c).toInt8.toInt32), (5, .int (iI 3))] [] _ _ _ _
  refine pm_e_inc (y := iI 4) pm_a222_25 rfl (by decide +kernel) (by decide +kernel) rfl ?_
  show pm_E _ _ _ 28 [(0, .retAddr 2), (1, .int (iI c)), (2, .int (iI 0)), (3, .int (iI 5)), (4, .int (iI c).toInt8.toInt32), (5, .int (iI 4))] [] _ _ _ _
  refine pm_e_goto pm_a222_28 rfl ?_
  show pm_E _ _ _ 7 [(0, .retAddr 2), (1, .int (iI c)), (2, .int (iI 0)), (3, .int (iI 5)), (4, .int (iI c).toInt8.toInt32), (5, .int (iI 4))] [] _ _ _ _
  refine pm_e_sim pm_a222_7 rfl ?_
  show pm_E _ _ _ 9 [(0, .retAddr 2), (1, .int (iI c)), (2, .int (iI 0)), (3, .int (iI 5)), (4, .int (iI c).toInt8.toInt32), (5, .int (iI 4))] [.int (iI 4)] _ _ _ _
  refine pm_e_sim pm_a222_9 rfl ?_
  show pm_E _ _ _ 10 [(0, .retAddr 2), (1, .int (iI c)), (2, .int (iI 0)), (3, .int (iI 5)), (4, .int (iI c).toInt8.toInt32), (5, .int (iI 4))] [.int (iI 5), .int (iI 4)] _ _ _ _
  refine pm_e_icf pm_a222_10 rfl (by decide +kernel) ?_
  show pm_E _ _ _ 13 [(0, .retAddr 2), (1, .int (iI c)), (2, .int (iI 0)), (3, .int (iI 5)), (4, .int (iI c).toInt8.toInt32), (5, .int (iI 4))] [] _ _ _ _
  refine pm_e_sim pm_a222_13 rfl ?_
  show pm_E _ _ _ 14 [(0, .retAddr 2), (1, .int (iI c)), (2, .int (iI 0)), (3, .int (iI 5)), (4, .int (iI c).toInt8.toInt32), (5, .int (iI 4))] [.retAddr 2] _ _ _ _
  refine pm_e_sim pm_a222_14 rfl ?_
  show pm_E _ _ _ 16 [(0, .retAddr 2), (1, .int (iI c)), (2, .int (iI 0)), (3, .int (iI 5)), (4, .int (iI c).toInt8.toInt32), (5, .int (iI 4))] [.int (iI 4), .retAddr 2] _ _ _ _
  refine pm_e_rd (st2 := [.int (iI 88)]) pm_a222_16 rfl rfl (by show ((pm_ix (iI 4) 5).bind fun j => some (Value.int (pm_b5 j) :: [])) = _; rw [show pm_ix (iI 4) 5 = some 4 from by decide +kernel]; show some [Value.int (pm_b5 4)] = _; rw [show pm_b5 4 = iI 88 from by decide +kernel]) ?_
  show pm_E _ _ _ 17 [(0, .retAddr 2), (1, .int (iI c)), (2, .int (iI 0)), (3, .int (iI 5)), (4, .int (iI c).toInt8.toInt32), (5, .int (iI 4))] [.int (iI 88)] _ _ _ _
  refine pm_e_sim pm_a222_17 rfl ?_
  show pm_E _ _ _ 19 [(0, .retAddr 2), (1, .int (iI c)), (2, .int (iI 0)), (3, .int (iI 5)), (4, .int (iI c).toInt8.toInt32), (5, .int (iI 4))] [.int (iI c).toInt8.toInt32, .int (iI 88)] _ _ _ _
  by_cases e4 : c = 88
  · refine pm_e_icf pm_a222_19 rfl (i2b_t h0 h1 (by decide) e4) ?_
    show pm_E _ _ _ 22 [(0, .retAddr 2), (1, .int (iI c)), (2, .int (iI 0)), (3, .int (iI 5)), (4, .int (iI c).toInt8.toInt32), (5, .int (iI 4))] [] _ _ _ _
    refine pm_e_sim pm_a222_22 rfl ?_
    show pm_E _ _ _ 24 [(0, .retAddr 2), (1, .int (iI c)), (2, .int (iI 0)), (3, .int (iI 5)), (4, .int (iI c).toInt8.toInt32), (5, .int (iI 4))] [.int (iI 4)] _ _ _ _
    refine pm_e_ret pm_a222_24 rfl rfl rfl rfl rfl rfl rfl rfl ?_
    have e9 : ixS c = 4 := by unfold ixS; rw [if_neg e0, if_neg e1, if_neg e2, if_neg e3, if_pos e4]
    rw [e9] at k
    exact k
  refine pm_e_ict pm_a222_19 rfl (i2b_f h0 h1 (by decide) e4) ?_
  show pm_E _ _ _ 25 [(0, .retAddr 2), (1, .int (iI c)), (2, .int (iI 0)), (3, .int (iI 5)), (4, .int (iI c).toInt8.toInt32), (5, .int (iI 4))] [] _ _ _ _
  refine pm_e_inc (y := iI 5) pm_a222_25 rfl (by decide +kernel) (by decide +kernel) rfl ?_
  show pm_E _ _ _ 28 [(0, .retAddr 2), (1, .int (iI c)), (2, .int (iI 0)), (3, .int (iI 5)), (4, .int (iI c).toInt8.toInt32), (5, .int (iI 5))] [] _ _ _ _
  refine pm_e_goto pm_a222_28 rfl ?_
  show pm_E _ _ _ 7 [(0, .retAddr 2), (1, .int (iI c)), (2, .int (iI 0)), (3, .int (iI 5)), (4, .int (iI c).toInt8.toInt32), (5, .int (iI 5))] [] _ _ _ _
  refine pm_e_sim pm_a222_7 rfl ?_
  show pm_E _ _ _ 9 [(0, .retAddr 2), (1, .int (iI c)), (2, .int (iI 0)), (3, .int (iI 5)), (4, .int (iI c).toInt8.toInt32), (5, .int (iI 5))] [.int (iI 5)] _ _ _ _
  refine pm_e_sim pm_a222_9 rfl ?_
  show pm_E _ _ _ 10 [(0, .retAddr 2), (1, .int (iI c)), (2, .int (iI 0)), (3, .int (iI 5)), (4, .int (iI c).toInt8.toInt32), (5, .int (iI 5))] [.int (iI 5), .int (iI 5)] _ _ _ _
  refine pm_e_ict pm_a222_10 rfl (by decide +kernel) ?_
  show pm_E _ _ _ 31 [(0, .retAddr 2), (1, .int (iI c)), (2, .int (iI 0)), (3, .int (iI 5)), (4, .int (iI c).toInt8.toInt32), (5, .int (iI 5))] [] _ _ _ _
  refine pm_e_sim pm_a222_31 rfl ?_
  refine pm_e_top (y := iI (-1)) (by decide +kernel) ?_
  show pm_E _ _ _ 32 [(0, .retAddr 2), (1, .int (iI c)), (2, .int (iI 0)), (3, .int (iI 5)), (4, .int (iI c).toInt8.toInt32), (5, .int (iI 5))] [.int (iI (-1))] _ _ _ _
  refine pm_e_ret pm_a222_32 rfl rfl rfl rfl rfl rfl rfl rfl ?_
  have e9 : ixS c = -1 := by unfold ixS; rw [if_neg e0, if_neg e1, if_neg e2, if_neg e3, if_neg e4]
  rw [e9] at k
  exact k
set_option maxHeartbeats 4000000 in
set_option maxRecDepth 100000 in
theorem J_sli {d : Nat} {ph : List va_E} {Q : Option Value → List va_E → Nat → Nat → Prop} {c : Int} (hc : in32 c) (k : Q (some (.int (iI (ixS c)))) ph 0 0) : pm_E none (d + 1) pm_mm220 0 [(0, .retAddr 2), (1, .int (iI c)), (2, .int (iI 0)), (3, .int (iI 5))] [] ph 0 0 Q := by
  refine pm_e_sim pm_a220_0 rfl ?_
  show pm_E _ _ _ 1 [(0, .retAddr 2), (1, .int (iI c)), (2, .int (iI 0)), (3, .int (iI 5))] [.int (iI c)] _ _ _ _
  refine pm_e_call (T2 := pm_mm221) pm_a220_1 rfl rfl rfl rfl rfl rfl rfl rfl rfl ?_
  refine J_can hc (fun h0 h1 => ?_) (fun h0 => ?_)
  · show pm_E _ _ _ 4 [(0, .retAddr 2), (1, .int (iI c)), (2, .int (iI 0)), (3, .int (iI 5))] [.int (iI 1)] _ _ _ _
    refine pm_e_ift pm_a220_4 rfl (by decide +kernel) ?_
    show pm_E _ _ _ 9 [(0, .retAddr 2), (1, .int (iI c)), (2, .int (iI 0)), (3, .int (iI 5))] [] _ _ _ _
    refine pm_e_sim pm_a220_9 rfl ?_
    show pm_E _ _ _ 10 [(0, .retAddr 2), (1, .int (iI c)), (2, .int (iI 0)), (3, .int (iI 5))] [.int (iI 0)] _ _ _ _
    refine pm_e_sim pm_a220_10 rfl ?_
    refine pm_e_top (y := iI 0) (by decide +kernel) ?_
    show pm_E _ _ _ 11 [(0, .retAddr 2), (1, .int (iI c)), (2, .int (iI 0)), (3, .int (iI 5))] [.int (iI 0), .int (iI 0)] _ _ _ _
    refine pm_e_nat (st2 := [.int (iI 0)]) pm_a220_11 rfl rfl rfl rfl rfl (by show some [Value.int (if (iI 0 : Int32) < iI 0 then iI 0 else iI 0)] = _; rw [show (if (iI 0 : Int32) < iI 0 then iI 0 else iI 0) = iI 0 from by decide +kernel]) ?_
    show pm_E _ _ _ 14 [(0, .retAddr 2), (1, .int (iI c)), (2, .int (iI 0)), (3, .int (iI 5))] [.int (iI 0)] _ _ _ _
    refine pm_e_sim pm_a220_14 rfl ?_
    show pm_E _ _ _ 15 [(0, .retAddr 2), (1, .int (iI c)), (2, .int (iI 0)), (3, .int (iI 5))] [] _ _ _ _
    refine pm_e_sim pm_a220_15 rfl ?_
    show pm_E _ _ _ 16 [(0, .retAddr 2), (1, .int (iI c)), (2, .int (iI 0)), (3, .int (iI 5))] [.int (iI 5)] _ _ _ _
    refine pm_e_sim pm_a220_16 rfl ?_
    show pm_E _ _ _ 17 [(0, .retAddr 2), (1, .int (iI c)), (2, .int (iI 0)), (3, .int (iI 5))] [.retAddr 2, .int (iI 5)] _ _ _ _
    refine pm_e_rd (st2 := [.int 5, .int (iI 5)]) pm_a220_17 rfl rfl rfl ?_
    refine pm_e_top (y := iI 5) (by decide +kernel) ?_
    show pm_E _ _ _ 18 [(0, .retAddr 2), (1, .int (iI c)), (2, .int (iI 0)), (3, .int (iI 5))] [.int (iI 5), .int (iI 5)] _ _ _ _
    refine pm_e_nat (st2 := [.int (iI 5)]) pm_a220_18 rfl rfl rfl rfl rfl (by show some [Value.int (if (iI 5 : Int32) < iI 5 then iI 5 else iI 5)] = _; rw [show (if (iI 5 : Int32) < iI 5 then iI 5 else iI 5) = iI 5 from by decide +kernel]) ?_
    show pm_E _ _ _ 21 [(0, .retAddr 2), (1, .int (iI c)), (2, .int (iI 0)), (3, .int (iI 5))] [.int (iI 5)] _ _ _ _
    refine pm_e_sim pm_a220_21 rfl ?_
    show pm_E _ _ _ 22 [(0, .retAddr 2), (1, .int (iI c)), (2, .int (iI 0)), (3, .int (iI 5))] [] _ _ _ _
    refine pm_e_sim pm_a220_22 rfl ?_
    show pm_E _ _ _ 23 [(0, .retAddr 2), (1, .int (iI c)), (2, .int (iI 0)), (3, .int (iI 5))] [.int (iI 0)] _ _ _ _
    refine pm_e_sim pm_a220_23 rfl ?_
    show pm_E _ _ _ 24 [(0, .retAddr 2), (1, .int (iI c)), (2, .int (iI 0)), (3, .int (iI 5))] [.int (iI 5), .int (iI 0)] _ _ _ _
    refine pm_e_ict pm_a220_24 rfl (by decide +kernel) ?_
    show pm_E _ _ _ 29 [(0, .retAddr 2), (1, .int (iI c)), (2, .int (iI 0)), (3, .int (iI 5))] [] _ _ _ _
    refine pm_e_sim pm_a220_29 rfl ?_
    show pm_E _ _ _ 30 [(0, .retAddr 2), (1, .int (iI c)), (2, .int (iI 0)), (3, .int (iI 5))] [.retAddr 2] _ _ _ _
    refine pm_e_sim pm_a220_30 rfl ?_
    show pm_E _ _ _ 31 [(0, .retAddr 2), (1, .int (iI c)), (2, .int (iI 0)), (3, .int (iI 5))] [.int (iI c), .retAddr 2] _ _ _ _
    refine pm_e_sim pm_a220_31 rfl ?_
    show pm_E _ _ _ 32 [(0, .retAddr 2), (1, .int (iI c)), (2, .int (iI 0)), (3, .int (iI 5))] [.int (iI 0), .int (iI c), .retAddr 2] _ _ _ _
    refine pm_e_sim pm_a220_32 rfl ?_
    show pm_E _ _ _ 33 [(0, .retAddr 2), (1, .int (iI c)), (2, .int (iI 0)), (3, .int (iI 5))] [.int (iI 5), .int (iI 0), .int (iI c), .retAddr 2] _ _ _ _
    refine pm_e_call (T2 := pm_mm222) pm_a220_33 rfl rfl rfl rfl rfl rfl rfl rfl rfl ?_
    refine J_ixc h0 h1 ?_
    show pm_E _ _ _ 36 [(0, .retAddr 2), (1, .int (iI c)), (2, .int (iI 0)), (3, .int (iI 5))] [.int (iI (ixS c))] _ _ _ _
    refine pm_e_ret pm_a220_36 rfl rfl rfl rfl rfl rfl rfl rfl ?_
    exact k
  · show pm_E _ _ _ 4 [(0, .retAddr 2), (1, .int (iI c)), (2, .int (iI 0)), (3, .int (iI 5))] [.int (iI 0)] _ _ _ _
    refine pm_e_iff pm_a220_4 rfl (by decide +kernel) ?_
    show pm_E _ _ _ 7 [(0, .retAddr 2), (1, .int (iI c)), (2, .int (iI 0)), (3, .int (iI 5))] [] _ _ _ _
    refine pm_e_sim pm_a220_7 rfl ?_
    refine pm_e_top (y := iI (-1)) (by decide +kernel) ?_
    show pm_E _ _ _ 8 [(0, .retAddr 2), (1, .int (iI c)), (2, .int (iI 0)), (3, .int (iI 5))] [.int (iI (-1))] _ _ _ _
    refine pm_e_ret pm_a220_8 rfl rfl rfl rfl rfl rfl rfl rfl ?_
    have e9 : ixS c = -1 := by unfold ixS; rw [if_neg (by omega), if_neg (by omega), if_neg (by omega), if_neg (by omega), if_neg (by omega)]
    rw [e9] at k
    exact k
set_option maxHeartbeats 4000000 in
set_option maxRecDepth 100000 in
theorem J_ix2 {d : Nat} {ph : List va_E} {Q : Option Value → List va_E → Nat → Nat → Prop} {c : Int} (hc : in32 c) (k : Q (some (.int (iI (ixS c)))) ph 0 0) : pm_E none (d + 2) pm_mm216 0 [(0, .retAddr 1), (1, .int (iI c)), (2, .int (iI 0))] [] ph 0 0 Q := by
  refine pm_e_sim pm_a216_0 rfl ?_
  show pm_E _ _ _ 1 [(0, .retAddr 1), (1, .int (iI c)), (2, .int (iI 0))] [.retAddr 1] _ _ _ _
  refine pm_e_call (T2 := pm_mm217) pm_a216_1 rfl rfl rfl rfl rfl rfl rfl rfl rfl ?_
  refine J_lat1 ?_
  show pm_E _ _ _ 4 [(0, .retAddr 1), (1, .int (iI c)), (2, .int (iI 0))] [.int (iI 1)] _ _ _ _
  refine pm_e_iff pm_a216_4 rfl (by decide +kernel) ?_
  show pm_E _ _ _ 7 [(0, .retAddr 1), (1, .int (iI c)), (2, .int (iI 0))] [] _ _ _ _
  refine pm_e_sim pm_a216_7 rfl ?_
  show pm_E _ _ _ 8 [(0, .retAddr 1), (1, .int (iI c)), (2, .int (iI 0))] [.retAddr 1] _ _ _ _
  refine pm_e_rd (st2 := [.retAddr 2]) pm_a216_8 rfl rfl rfl ?_
  show pm_E _ _ _ 11 [(0, .retAddr 1), (1, .int (iI c)), (2, .int (iI 0))] [.retAddr 2] _ _ _ _
  refine pm_e_sim pm_a216_11 rfl ?_
  show pm_E _ _ _ 12 [(0, .retAddr 1), (1, .int (iI c)), (2, .int (iI 0))] [.int (iI c), .retAddr 2] _ _ _ _
  refine pm_e_sim pm_a216_12 rfl ?_
  show pm_E _ _ _ 13 [(0, .retAddr 1), (1, .int (iI c)), (2, .int (iI 0))] [.int (iI 0), .int (iI c), .retAddr 2] _ _ _ _
  refine pm_e_sim pm_a216_13 rfl ?_
  show pm_E _ _ _ 14 [(0, .retAddr 1), (1, .int (iI c)), (2, .int (iI 0))] [.retAddr 1, .int (iI 0), .int (iI c), .retAddr 2] _ _ _ _
  refine pm_e_call (T2 := pm_mm218) pm_a216_14 rfl rfl rfl rfl rfl rfl rfl rfl rfl ?_
  refine J_length ?_
  show pm_E _ _ _ 17 [(0, .retAddr 1), (1, .int (iI c)), (2, .int (iI 0))] [.int (iI 5), .int (iI 0), .int (iI c), .retAddr 2] _ _ _ _
  refine pm_e_call (T2 := pm_mm220) pm_a216_17 rfl rfl rfl rfl rfl rfl rfl rfl rfl ?_
  refine J_sli hc ?_
  show pm_E _ _ _ 20 [(0, .retAddr 1), (1, .int (iI c)), (2, .int (iI 0))] [.int (iI (ixS c))] _ _ _ _
  refine pm_e_goto pm_a216_20 rfl ?_
  show pm_E _ _ _ 36 [(0, .retAddr 1), (1, .int (iI c)), (2, .int (iI 0))] [.int (iI (ixS c))] _ _ _ _
  refine pm_e_ret pm_a216_36 rfl rfl rfl rfl rfl rfl rfl rfl ?_
  exact k
set_option maxHeartbeats 4000000 in
set_option maxRecDepth 100000 in
theorem J_ix {d : Nat} {ph : List va_E} {Q : Option Value → List va_E → Nat → Nat → Prop} {c : Int} (hc : in32 c) (k : Q (some (.int (iI (ixS c)))) ph 0 0) : pm_E none (d + 3) pm_mm215 0 [(0, .retAddr 1), (1, .int (iI c))] [] ph 0 0 Q := by
  refine pm_e_sim pm_a215_0 rfl ?_
  show pm_E _ _ _ 1 [(0, .retAddr 1), (1, .int (iI c))] [.retAddr 1] _ _ _ _
  refine pm_e_sim pm_a215_1 rfl ?_
  show pm_E _ _ _ 2 [(0, .retAddr 1), (1, .int (iI c))] [.int (iI c), .retAddr 1] _ _ _ _
  refine pm_e_sim pm_a215_2 rfl ?_
  refine pm_e_top (y := iI 0) (by decide +kernel) ?_
  show pm_E _ _ _ 3 [(0, .retAddr 1), (1, .int (iI c))] [.int (iI 0), .int (iI c), .retAddr 1] _ _ _ _
  refine pm_e_call (T2 := pm_mm216) pm_a215_3 rfl rfl rfl rfl rfl rfl rfl rfl rfl ?_
  refine J_ix2 hc ?_
  show pm_E _ _ _ 6 [(0, .retAddr 1), (1, .int (iI c))] [.int (iI (ixS c))] _ _ _ _
  refine pm_e_ret pm_a215_6 rfl rfl rfl rfl rfl rfl rfl rfl ?_
  exact k
set_option maxHeartbeats 4000000 in
set_option maxRecDepth 100000 in
theorem J_pre {d : Nat} {ph : List va_E} {Q : Option Value → List va_E → Nat → Nat → Prop} {i : Int} (h0 : 0 ≤ i) (h1 : i < 5) (k : Q (some (.int (iI i))) ph 0 0) : pm_E none d pm_mm226 0 [(0, .int (iI i)), (1, .int (iI 5)), (2, .retAddr 5)] [] ph 0 0 Q := by
  refine pm_e_sim pm_a226_0 rfl ?_
  show pm_E _ _ _ 1 [(0, .int (iI i)), (1, .int (iI 5)), (2, .retAddr 5)] [.int (iI i)] _ _ _ _
  refine pm_i_lt (t := 9) pm_a226_1 rfl ⟨by omega, by omega⟩ (fun h => ?_) (fun h => ?_)
  · exfalso; omega
  show pm_E _ _ _ 4 [(0, .int (iI i)), (1, .int (iI 5)), (2, .retAddr 5)] [] _ _ _ _
  refine pm_e_sim pm_a226_4 rfl ?_
  show pm_E _ _ _ 5 [(0, .int (iI i)), (1, .int (iI 5)), (2, .retAddr 5)] [.int (iI i)] _ _ _ _
  refine pm_e_sim pm_a226_5 rfl ?_
  show pm_E _ _ _ 6 [(0, .int (iI i)), (1, .int (iI 5)), (2, .retAddr 5)] [.int (iI 5), .int (iI i)] _ _ _ _
  refine pm_c_lt (t := 16) pm_a226_6 rfl ⟨by omega, by omega⟩ ⟨by omega, by omega⟩ (fun h2 => ?_) (fun h2 => ?_)
  · show pm_E _ _ _ 16 [(0, .int (iI i)), (1, .int (iI 5)), (2, .retAddr 5)] [] _ _ _ _
    refine pm_e_sim pm_a226_16 rfl ?_
    show pm_E _ _ _ 17 [(0, .int (iI i)), (1, .int (iI 5)), (2, .retAddr 5)] [.int (iI i)] _ _ _ _
    refine pm_e_ret pm_a226_17 rfl rfl rfl rfl rfl rfl rfl rfl ?_
    exact k
  exfalso; omega
set_option maxHeartbeats 4000000 in
set_option maxRecDepth 100000 in
theorem J_chk {d : Nat} {ph : List va_E} {Q : Option Value → List va_E → Nat → Nat → Prop} {i : Int} (h0 : 0 ≤ i) (h1 : i < 5) (k : Q none ph 0 0) : pm_E none (d + 1) pm_mm225 0 [(0, .int (iI i)), (1, .int (iI 5))] [] ph 0 0 Q := by
  refine pm_e_sim pm_a225_0 rfl ?_
  show pm_E _ _ _ 1 [(0, .int (iI i)), (1, .int (iI 5))] [.int (iI i)] _ _ _ _
  refine pm_e_sim pm_a225_1 rfl ?_
  show pm_E _ _ _ 2 [(0, .int (iI i)), (1, .int (iI 5))] [.int (iI 5), .int (iI i)] _ _ _ _
  refine pm_e_rd (st2 := [.retAddr 5, .int (iI 5), .int (iI i)]) pm_a225_2 rfl rfl rfl ?_
  show pm_E _ _ _ 5 [(0, .int (iI i)), (1, .int (iI 5))] [.retAddr 5, .int (iI 5), .int (iI i)] _ _ _ _
  refine pm_e_call (T2 := pm_mm226) pm_a225_5 rfl rfl rfl rfl rfl rfl rfl rfl rfl ?_
  refine J_pre h0 h1 ?_
  show pm_E _ _ _ 8 [(0, .int (iI i)), (1, .int (iI 5))] [.int (iI i)] _ _ _ _
  refine pm_e_sim pm_a225_8 rfl ?_
  show pm_E _ _ _ 9 [(0, .int (iI i)), (1, .int (iI 5))] [] _ _ _ _
  refine pm_e_ret pm_a225_9 rfl rfl rfl rfl rfl rfl rfl rfl ?_
  exact k
set_option maxHeartbeats 4000000 in
set_option maxRecDepth 100000 in
theorem J_slc0 {d : Nat} {ph : List va_E} {Q : Option Value → List va_E → Nat → Nat → Prop} (k : Q (some (.int (iI 83))) ph 0 0) : pm_E none (d + 2) pm_mm224 0 [(0, .retAddr 4), (1, .int (iI 0))] [] ph 0 0 Q := by
  refine pm_e_sim pm_a224_0 rfl ?_
  show pm_E _ _ _ 1 [(0, .retAddr 4), (1, .int (iI 0))] [.int (iI 0)] _ _ _ _
  refine pm_e_sim pm_a224_1 rfl ?_
  show pm_E _ _ _ 2 [(0, .retAddr 4), (1, .int (iI 0))] [.retAddr 4, .int (iI 0)] _ _ _ _
  refine pm_e_rd (st2 := [.int 5, .int (iI 0)]) pm_a224_2 rfl rfl rfl ?_
  refine pm_e_top (y := iI 5) (by decide +kernel) ?_
  show pm_E _ _ _ 3 [(0, .retAddr 4), (1, .int (iI 0))] [.int (iI 5), .int (iI 0)] _ _ _ _
  refine pm_e_call (T2 := pm_mm225) pm_a224_3 rfl rfl rfl rfl rfl rfl rfl rfl rfl ?_
  refine J_chk (by omega) (by omega) ?_
  show pm_E _ _ _ 6 [(0, .retAddr 4), (1, .int (iI 0))] [] _ _ _ _
  refine pm_e_sim pm_a224_6 rfl ?_
  show pm_E _ _ _ 7 [(0, .retAddr 4), (1, .int (iI 0))] [.retAddr 4] _ _ _ _
  refine pm_e_sim pm_a224_7 rfl ?_
  show pm_E _ _ _ 8 [(0, .retAddr 4), (1, .int (iI 0))] [.int (iI 0), .retAddr 4] _ _ _ _
  refine pm_e_rd (st2 := [.int (iI 83)]) pm_a224_8 rfl rfl (by show ((pm_ix (iI 0) 5).bind fun j => some (Value.int (pm_b5 j) :: [])) = _; rw [show pm_ix (iI 0) 5 = some 0 from by decide +kernel]; show some [Value.int (pm_b5 0)] = _; rw [show pm_b5 0 = iI 83 from by decide +kernel]) ?_
  show pm_E _ _ _ 9 [(0, .retAddr 4), (1, .int (iI 0))] [.int (iI 83)] _ _ _ _
  refine pm_e_sim pm_a224_9 rfl ?_
  refine pm_e_top (y := iI 255) (by decide +kernel) ?_
  show pm_E _ _ _ 12 [(0, .retAddr 4), (1, .int (iI 0))] [.int (iI 255), .int (iI 83)] _ _ _ _
  refine pm_e_sim pm_a224_12 rfl ?_
  refine pm_e_top (y := iI 83) (by decide +kernel) ?_
  show pm_E _ _ _ 13 [(0, .retAddr 4), (1, .int (iI 0))] [.int (iI 83)] _ _ _ _
  refine pm_e_sim pm_a224_13 rfl ?_
  refine pm_e_top (y := iI 83) (by decide +kernel) ?_
  show pm_E _ _ _ 14 [(0, .retAddr 4), (1, .int (iI 0))] [.int (iI 83)] _ _ _ _
  refine pm_e_ret pm_a224_14 rfl rfl rfl rfl rfl rfl rfl (by show (if pm_fit .char (.int (iI 83)) = true then some (some (Value.int (iI 83))) else none) = some (some (Value.int (iI 83))); rw [if_pos (by decide +kernel)]) ?_
  exact k
set_option maxHeartbeats 4000000 in
set_option maxRecDepth 100000 in
theorem J_slc1 {d : Nat} {ph : List va_E} {Q : Option Value → List va_E → Nat → Nat → Prop} (k : Q (some (.int (iI 75))) ph 0 0) : pm_E none (d + 2) pm_mm224 0 [(0, .retAddr 4), (1, .int (iI 1))] [] ph 0 0 Q := by
  refine pm_e_sim pm_a224_0 rfl ?_
  show pm_E _ _ _ 1 [(0, .retAddr 4), (1, .int (iI 1))] [.int (iI 1)] _ _ _ _
  refine pm_e_sim pm_a224_1 rfl ?_
  show pm_E _ _ _ 2 [(0, .retAddr 4), (1, .int (iI 1))] [.retAddr 4, .int (iI 1)] _ _ _ _
  refine pm_e_rd (st2 := [.int 5, .int (iI 1)]) pm_a224_2 rfl rfl rfl ?_
  refine pm_e_top (y := iI 5) (by decide +kernel) ?_
  show pm_E _ _ _ 3 [(0, .retAddr 4), (1, .int (iI 1))] [.int (iI 5), .int (iI 1)] _ _ _ _
  refine pm_e_call (T2 := pm_mm225) pm_a224_3 rfl rfl rfl rfl rfl rfl rfl rfl rfl ?_
  refine J_chk (by omega) (by omega) ?_
  show pm_E _ _ _ 6 [(0, .retAddr 4), (1, .int (iI 1))] [] _ _ _ _
  refine pm_e_sim pm_a224_6 rfl ?_
  show pm_E _ _ _ 7 [(0, .retAddr 4), (1, .int (iI 1))] [.retAddr 4] _ _ _ _
  refine pm_e_sim pm_a224_7 rfl ?_
  show pm_E _ _ _ 8 [(0, .retAddr 4), (1, .int (iI 1))] [.int (iI 1), .retAddr 4] _ _ _ _
  refine pm_e_rd (st2 := [.int (iI 75)]) pm_a224_8 rfl rfl (by show ((pm_ix (iI 1) 5).bind fun j => some (Value.int (pm_b5 j) :: [])) = _; rw [show pm_ix (iI 1) 5 = some 1 from by decide +kernel]; show some [Value.int (pm_b5 1)] = _; rw [show pm_b5 1 = iI 75 from by decide +kernel]) ?_
  show pm_E _ _ _ 9 [(0, .retAddr 4), (1, .int (iI 1))] [.int (iI 75)] _ _ _ _
  refine pm_e_sim pm_a224_9 rfl ?_
  refine pm_e_top (y := iI 255) (by decide +kernel) ?_
  show pm_E _ _ _ 12 [(0, .retAddr 4), (1, .int (iI 1))] [.int (iI 255), .int (iI 75)] _ _ _ _
  refine pm_e_sim pm_a224_12 rfl ?_
  refine pm_e_top (y := iI 75) (by decide +kernel) ?_
  show pm_E _ _ _ 13 [(0, .retAddr 4), (1, .int (iI 1))] [.int (iI 75)] _ _ _ _
  refine pm_e_sim pm_a224_13 rfl ?_
  refine pm_e_top (y := iI 75) (by decide +kernel) ?_
  show pm_E _ _ _ 14 [(0, .retAddr 4), (1, .int (iI 1))] [.int (iI 75)] _ _ _ _
  refine pm_e_ret pm_a224_14 rfl rfl rfl rfl rfl rfl rfl (by show (if pm_fit .char (.int (iI 75)) = true then some (some (Value.int (iI 75))) else none) = some (some (Value.int (iI 75))); rw [if_pos (by decide +kernel)]) ?_
  exact k
set_option maxHeartbeats 4000000 in
set_option maxRecDepth 100000 in
theorem J_slc2 {d : Nat} {ph : List va_E} {Q : Option Value → List va_E → Nat → Nat → Prop} (k : Q (some (.int (iI 73))) ph 0 0) : pm_E none (d + 2) pm_mm224 0 [(0, .retAddr 4), (1, .int (iI 2))] [] ph 0 0 Q := by
  refine pm_e_sim pm_a224_0 rfl ?_
  show pm_E _ _ _ 1 [(0, .retAddr 4), (1, .int (iI 2))] [.int (iI 2)] _ _ _ _
  refine pm_e_sim pm_a224_1 rfl ?_
  show pm_E _ _ _ 2 [(0, .retAddr 4), (1, .int (iI 2))] [.retAddr 4, .int (iI 2)] _ _ _ _
  refine pm_e_rd (st2 := [.int 5, .int (iI 2)]) pm_a224_2 rfl rfl rfl ?_
  refine pm_e_top (y := iI 5) (by decide +kernel) ?_
  show pm_E _ _ _ 3 [(0, .retAddr 4), (1, .int (iI 2))] [.int (iI 5), .int (iI 2)] _ _ _ _
  refine pm_e_call (T2 := pm_mm225) pm_a224_3 rfl rfl rfl rfl rfl rfl rfl rfl rfl ?_
  refine J_chk (by omega) (by omega) ?_
  show pm_E _ _ _ 6 [(0, .retAddr 4), (1, .int (iI 2))] [] _ _ _ _
  refine pm_e_sim pm_a224_6 rfl ?_
  show pm_E _ _ _ 7 [(0, .retAddr 4), (1, .int (iI 2))] [.retAddr 4] _ _ _ _
  refine pm_e_sim pm_a224_7 rfl ?_
  show pm_E _ _ _ 8 [(0, .retAddr 4), (1, .int (iI 2))] [.int (iI 2), .retAddr 4] _ _ _ _
  refine pm_e_rd (st2 := [.int (iI 73)]) pm_a224_8 rfl rfl (by show ((pm_ix (iI 2) 5).bind fun j => some (Value.int (pm_b5 j) :: [])) = _; rw [show pm_ix (iI 2) 5 = some 2 from by decide +kernel]; show some [Value.int (pm_b5 2)] = _; rw [show pm_b5 2 = iI 73 from by decide +kernel]) ?_
  show pm_E _ _ _ 9 [(0, .retAddr 4), (1, .int (iI 2))] [.int (iI 73)] _ _ _ _
  refine pm_e_sim pm_a224_9 rfl ?_
  refine pm_e_top (y := iI 255) (by decide +kernel) ?_
  show pm_E _ _ _ 12 [(0, .retAddr 4), (1, .int (iI 2))] [.int (iI 255), .int (iI 73)] _ _ _ _
  refine pm_e_sim pm_a224_12 rfl ?_
  refine pm_e_top (y := iI 73) (by decide +kernel) ?_
  show pm_E _ _ _ 13 [(0, .retAddr 4), (1, .int (iI 2))] [.int (iI 73)] _ _ _ _
  refine pm_e_sim pm_a224_13 rfl ?_
  refine pm_e_top (y := iI 73) (by decide +kernel) ?_
  show pm_E _ _ _ 14 [(0, .retAddr 4), (1, .int (iI 2))] [.int (iI 73)] _ _ _ _
  refine pm_e_ret pm_a224_14 rfl rfl rfl rfl rfl rfl rfl (by show (if pm_fit .char (.int (iI 73)) = true then some (some (Value.int (iI 73))) else none) = some (some (Value.int (iI 73))); rw [if_pos (by decide +kernel)]) ?_
  exact k
set_option maxHeartbeats 4000000 in
set_option maxRecDepth 100000 in
theorem J_slc3 {d : Nat} {ph : List va_E} {Q : Option Value → List va_E → Nat → Nat → Prop} (k : Q (some (.int (iI 70))) ph 0 0) : pm_E none (d + 2) pm_mm224 0 [(0, .retAddr 4), (1, .int (iI 3))] [] ph 0 0 Q := by
  refine pm_e_sim pm_a224_0 rfl ?_
  show pm_E _ _ _ 1 [(0, .retAddr 4), (1, .int (iI 3))] [.int (iI 3)] _ _ _ _
  refine pm_e_sim pm_a224_1 rfl ?_
  show pm_E _ _ _ 2 [(0, .retAddr 4), (1, .int (iI 3))] [.retAddr 4, .int (iI 3)] _ _ _ _
  refine pm_e_rd (st2 := [.int 5, .int (iI 3)]) pm_a224_2 rfl rfl rfl ?_
  refine pm_e_top (y := iI 5) (by decide +kernel) ?_
  show pm_E _ _ _ 3 [(0, .retAddr 4), (1, .int (iI 3))] [.int (iI 5), .int (iI 3)] _ _ _ _
  refine pm_e_call (T2 := pm_mm225) pm_a224_3 rfl rfl rfl rfl rfl rfl rfl rfl rfl ?_
  refine J_chk (by omega) (by omega) ?_
  show pm_E _ _ _ 6 [(0, .retAddr 4), (1, .int (iI 3))] [] _ _ _ _
  refine pm_e_sim pm_a224_6 rfl ?_
  show pm_E _ _ _ 7 [(0, .retAddr 4), (1, .int (iI 3))] [.retAddr 4] _ _ _ _
  refine pm_e_sim pm_a224_7 rfl ?_
  show pm_E _ _ _ 8 [(0, .retAddr 4), (1, .int (iI 3))] [.int (iI 3), .retAddr 4] _ _ _ _
  refine pm_e_rd (st2 := [.int (iI 70)]) pm_a224_8 rfl rfl (by show ((pm_ix (iI 3) 5).bind fun j => some (Value.int (pm_b5 j) :: [])) = _; rw [show pm_ix (iI 3) 5 = some 3 from by decide +kernel]; show some [Value.int (pm_b5 3)] = _; rw [show pm_b5 3 = iI 70 from by decide +kernel]) ?_
  show pm_E _ _ _ 9 [(0, .retAddr 4), (1, .int (iI 3))] [.int (iI 70)] _ _ _ _
  refine pm_e_sim pm_a224_9 rfl ?_
  refine pm_e_top (y := iI 255) (by decide +kernel) ?_
  show pm_E _ _ _ 12 [(0, .retAddr 4), (1, .int (iI 3))] [.int (iI 255), .int (iI 70)] _ _ _ _
  refine pm_e_sim pm_a224_12 rfl ?_
  refine pm_e_top (y := iI 70) (by decide +kernel) ?_
  show pm_E _ _ _ 13 [(0, .retAddr 4), (1, .int (iI 3))] [.int (iI 70)] _ _ _ _
  refine pm_e_sim pm_a224_13 rfl ?_
  refine pm_e_top (y := iI 70) (by decide +kernel) ?_
  show pm_E _ _ _ 14 [(0, .retAddr 4), (1, .int (iI 3))] [.int (iI 70)] _ _ _ _
  refine pm_e_ret pm_a224_14 rfl rfl rfl rfl rfl rfl rfl (by show (if pm_fit .char (.int (iI 70)) = true then some (some (Value.int (iI 70))) else none) = some (some (Value.int (iI 70))); rw [if_pos (by decide +kernel)]) ?_
  exact k
set_option maxHeartbeats 4000000 in
set_option maxRecDepth 100000 in
theorem J_slc4 {d : Nat} {ph : List va_E} {Q : Option Value → List va_E → Nat → Nat → Prop} (k : Q (some (.int (iI 88))) ph 0 0) : pm_E none (d + 2) pm_mm224 0 [(0, .retAddr 4), (1, .int (iI 4))] [] ph 0 0 Q := by
  refine pm_e_sim pm_a224_0 rfl ?_
  show pm_E _ _ _ 1 [(0, .retAddr 4), (1, .int (iI 4))] [.int (iI 4)] _ _ _ _
  refine pm_e_sim pm_a224_1 rfl ?_
  show pm_E _ _ _ 2 [(0, .retAddr 4), (1, .int (iI 4))] [.retAddr 4, .int (iI 4)] _ _ _ _
  refine pm_e_rd (st2 := [.int 5, .int (iI 4)]) pm_a224_2 rfl rfl rfl ?_
  refine pm_e_top (y := iI 5) (by decide +kernel) ?_
  show pm_E _ _ _ 3 [(0, .retAddr 4), (1, .int (iI 4))] [.int (iI 5), .int (iI 4)] _ _ _ _
  refine pm_e_call (T2 := pm_mm225) pm_a224_3 rfl rfl rfl rfl rfl rfl rfl rfl rfl ?_
  refine J_chk (by omega) (by omega) ?_
  show pm_E _ _ _ 6 [(0, .retAddr 4), (1, .int (iI 4))] [] _ _ _ _
  refine pm_e_sim pm_a224_6 rfl ?_
  show pm_E _ _ _ 7 [(0, .retAddr 4), (1, .int (iI 4))] [.retAddr 4] _ _ _ _
  refine pm_e_sim pm_a224_7 rfl ?_
  show pm_E _ _ _ 8 [(0, .retAddr 4), (1, .int (iI 4))] [.int (iI 4), .retAddr 4] _ _ _ _
  refine pm_e_rd (st2 := [.int (iI 88)]) pm_a224_8 rfl rfl (by show ((pm_ix (iI 4) 5).bind fun j => some (Value.int (pm_b5 j) :: [])) = _; rw [show pm_ix (iI 4) 5 = some 4 from by decide +kernel]; show some [Value.int (pm_b5 4)] = _; rw [show pm_b5 4 = iI 88 from by decide +kernel]) ?_
  show pm_E _ _ _ 9 [(0, .retAddr 4), (1, .int (iI 4))] [.int (iI 88)] _ _ _ _
  refine pm_e_sim pm_a224_9 rfl ?_
  refine pm_e_top (y := iI 255) (by decide +kernel) ?_
  show pm_E _ _ _ 12 [(0, .retAddr 4), (1, .int (iI 4))] [.int (iI 255), .int (iI 88)] _ _ _ _
  refine pm_e_sim pm_a224_12 rfl ?_
  refine pm_e_top (y := iI 88) (by decide +kernel) ?_
  show pm_E _ _ _ 13 [(0, .retAddr 4), (1, .int (iI 4))] [.int (iI 88)] _ _ _ _
  refine pm_e_sim pm_a224_13 rfl ?_
  refine pm_e_top (y := iI 88) (by decide +kernel) ?_
  show pm_E _ _ _ 14 [(0, .retAddr 4), (1, .int (iI 4))] [.int (iI 88)] _ _ _ _
  refine pm_e_ret pm_a224_14 rfl rfl rfl rfl rfl rfl rfl (by show (if pm_fit .char (.int (iI 88)) = true then some (some (Value.int (iI 88))) else none) = some (some (Value.int (iI 88))); rw [if_pos (by decide +kernel)]) ?_
  exact k
set_option maxHeartbeats 4000000 in
set_option maxRecDepth 100000 in
theorem J_ca0 {d : Nat} {ph : List va_E} {Q : Option Value → List va_E → Nat → Nat → Prop} (k : Q (some (.int (iI 83))) ph 0 0) : pm_E none (d + 3) pm_mm223 0 [(0, .retAddr 3), (1, .int (iI 0))] [] ph 0 0 Q := by
  refine pm_e_sim pm_a223_0 rfl ?_
  show pm_E _ _ _ 1 [(0, .retAddr 3), (1, .int (iI 0))] [.retAddr 3] _ _ _ _
  refine pm_e_call (T2 := pm_mm217) pm_a223_1 rfl rfl rfl rfl rfl rfl rfl rfl rfl ?_
  refine J_lat3 ?_
  show pm_E _ _ _ 4 [(0, .retAddr 3), (1, .int (iI 0))] [.int (iI 1)] _ _ _ _
  refine pm_e_iff pm_a223_4 rfl (by decide +kernel) ?_
  show pm_E _ _ _ 7 [(0, .retAddr 3), (1, .int (iI 0))] [] _ _ _ _
  refine pm_e_sim pm_a223_7 rfl ?_
  show pm_E _ _ _ 8 [(0, .retAddr 3), (1, .int (iI 0))] [.retAddr 3] _ _ _ _
  refine pm_e_rd (st2 := [.retAddr 4]) pm_a223_8 rfl rfl rfl ?_
  show pm_E _ _ _ 11 [(0, .retAddr 3), (1, .int (iI 0))] [.retAddr 4] _ _ _ _
  refine pm_e_sim pm_a223_11 rfl ?_
  show pm_E _ _ _ 12 [(0, .retAddr 3), (1, .int (iI 0))] [.int (iI 0), .retAddr 4] _ _ _ _
  refine pm_e_call (T2 := pm_mm224) pm_a223_12 rfl rfl rfl rfl rfl rfl rfl rfl rfl ?_
  refine J_slc0 ?_
  show pm_E _ _ _ 15 [(0, .retAddr 3), (1, .int (iI 0))] [.int (iI 83)] _ _ _ _
  refine pm_e_ret pm_a223_15 rfl rfl rfl rfl rfl rfl rfl (by show (if pm_fit .char (.int (iI 83)) = true then some (some (Value.int (iI 83))) else none) = some (some (Value.int (iI 83))); rw [if_pos (by decide +kernel)]) ?_
  exact k
set_option maxHeartbeats 4000000 in
set_option maxRecDepth 100000 in
theorem J_ca1 {d : Nat} {ph : List va_E} {Q : Option Value → List va_E → Nat → Nat → Prop} (k : Q (some (.int (iI 75))) ph 0 0) : pm_E none (d + 3) pm_mm223 0 [(0, .retAddr 3), (1, .int (iI 1))] [] ph 0 0 Q := by
  refine pm_e_sim pm_a223_0 rfl ?_
  show pm_E _ _ _ 1 [(0, .retAddr 3), (1, .int (iI 1))] [.retAddr 3] _ _ _ _
  refine pm_e_call (T2 := pm_mm217) pm_a223_1 rfl rfl rfl rfl rfl rfl rfl rfl rfl ?_
  refine J_lat3 ?_
  show pm_E _ _ _ 4 [(0, .retAddr 3), (1, .int (iI 1))] [.int (iI 1)] _ _ _ _
  refine pm_e_iff pm_a223_4 rfl (by decide +kernel) ?_
  show pm_E _ _ _ 7 [(0, .retAddr 3), (1, .int (iI 1))] [] _ _ _ _
  refine pm_e_sim pm_a223_7 rfl ?_
  show pm_E _ _ _ 8 [(0, .retAddr 3), (1, .int (iI 1))] [.retAddr 3] _ _ _ _
  refine pm_e_rd (st2 := [.retAddr 4]) pm_a223_8 rfl rfl rfl ?_
  show pm_E _ _ _ 11 [(0, .retAddr 3), (1, .int (iI 1))] [.retAddr 4] _ _ _ _
  refine pm_e_sim pm_a223_11 rfl ?_
  show pm_E _ _ _ 12 [(0, .retAddr 3), (1, .int (iI 1))] [.int (iI 1), .retAddr 4] _ _ _ _
  refine pm_e_call (T2 := pm_mm224) pm_a223_12 rfl rfl rfl rfl rfl rfl rfl rfl rfl ?_
  refine J_slc1 ?_
  show pm_E _ _ _ 15 [(0, .retAddr 3), (1, .int (iI 1))] [.int (iI 75)] _ _ _ _
  refine pm_e_ret pm_a223_15 rfl rfl rfl rfl rfl rfl rfl (by show (if pm_fit .char (.int (iI 75)) = true then some (some (Value.int (iI 75))) else none) = some (some (Value.int (iI 75))); rw [if_pos (by decide +kernel)]) ?_
  exact k
set_option maxHeartbeats 4000000 in
set_option maxRecDepth 100000 in
theorem J_ca2 {d : Nat} {ph : List va_E} {Q : Option Value → List va_E → Nat → Nat → Prop} (k : Q (some (.int (iI 73))) ph 0 0) : pm_E none (d + 3) pm_mm223 0 [(0, .retAddr 3), (1, .int (iI 2))] [] ph 0 0 Q := by
  refine pm_e_sim pm_a223_0 rfl ?_
  show pm_E _ _ _ 1 [(0, .retAddr 3), (1, .int (iI 2))] [.retAddr 3] _ _ _ _
  refine pm_e_call (T2 := pm_mm217) pm_a223_1 rfl rfl rfl rfl rfl rfl rfl rfl rfl ?_
  refine J_lat3 ?_
  show pm_E _ _ _ 4 [(0, .retAddr 3), (1, .int (iI 2))] [.int (iI 1)] _ _ _ _
  refine pm_e_iff pm_a223_4 rfl (by decide +kernel) ?_
  show pm_E _ _ _ 7 [(0, .retAddr 3), (1, .int (iI 2))] [] _ _ _ _
  refine pm_e_sim pm_a223_7 rfl ?_
  show pm_E _ _ _ 8 [(0, .retAddr 3), (1, .int (iI 2))] [.retAddr 3] _ _ _ _
  refine pm_e_rd (st2 := [.retAddr 4]) pm_a223_8 rfl rfl rfl ?_
  show pm_E _ _ _ 11 [(0, .retAddr 3), (1, .int (iI 2))] [.retAddr 4] _ _ _ _
  refine pm_e_sim pm_a223_11 rfl ?_
  show pm_E _ _ _ 12 [(0, .retAddr 3), (1, .int (iI 2))] [.int (iI 2), .retAddr 4] _ _ _ _
  refine pm_e_call (T2 := pm_mm224) pm_a223_12 rfl rfl rfl rfl rfl rfl rfl rfl rfl ?_
  refine J_slc2 ?_
  show pm_E _ _ _ 15 [(0, .retAddr 3), (1, .int (iI 2))] [.int (iI 73)] _ _ _ _
  refine pm_e_ret pm_a223_15 rfl rfl rfl rfl rfl rfl rfl (by show (if pm_fit .char (.int (iI 73)) = true then some (some (Value.int (iI 73))) else none) = some (some (Value.int (iI 73))); rw [if_pos (by decide +kernel)]) ?_
  exact k
set_option maxHeartbeats 4000000 in
set_option maxRecDepth 100000 in
theorem J_ca3 {d : Nat} {ph : List va_E} {Q : Option Value → List va_E → Nat → Nat → Prop} (k : Q (some (.int (iI 70))) ph 0 0) : pm_E none (d + 3) pm_mm223 0 [(0, .retAddr 3), (1, .int (iI 3))] [] ph 0 0 Q := by
  refine pm_e_sim pm_a223_0 rfl ?_
  show pm_E _ _ _ 1 [(0, .retAddr 3), (1, .int (iI 3))] [.retAddr 3] _ _ _ _
  refine pm_e_call (T2 := pm_mm217) pm_a223_1 rfl rfl rfl rfl rfl rfl rfl rfl rfl ?_
  refine J_lat3 ?_
  show pm_E _ _ _ 4 [(0, .retAddr 3), (1, .int (iI 3))] [.int (iI 1)] _ _ _ _
  refine pm_e_iff pm_a223_4 rfl (by decide +kernel) ?_
  show pm_E _ _ _ 7 [(0, .retAddr 3), (1, .int (iI 3))] [] _ _ _ _
  refine pm_e_sim pm_a223_7 rfl ?_
  show pm_E _ _ _ 8 [(0, .retAddr 3), (1, .int (iI 3))] [.retAddr 3] _ _ _ _
  refine pm_e_rd (st2 := [.retAddr 4]) pm_a223_8 rfl rfl rfl ?_
  show pm_E _ _ _ 11 [(0, .retAddr 3), (1, .int (iI 3))] [.retAddr 4] _ _ _ _
  refine pm_e_sim pm_a223_11 rfl ?_
  show pm_E _ _ _ 12 [(0, .retAddr 3), (1, .int (iI 3))] [.int (iI 3), .retAddr 4] _ _ _ _
  refine pm_e_call (T2 := pm_mm224) pm_a223_12 rfl rfl rfl rfl rfl rfl rfl rfl rfl ?_
  refine J_slc3 ?_
  show pm_E _ _ _ 15 [(0, .retAddr 3), (1, .int (iI 3))] [.int (iI 70)] _ _ _ _
  refine pm_e_ret pm_a223_15 rfl rfl rfl rfl rfl rfl rfl (by show (if pm_fit .char (.int (iI 70)) = true then some (some (Value.int (iI 70))) else none) = some (some (Value.int (iI 70))); rw [if_pos (by decide +kernel)]) ?_
  exact k
set_option maxHeartbeats 4000000 in
set_option maxRecDepth 100000 in
theorem J_ca4 {d : Nat} {ph : List va_E} {Q : Option Value → List va_E → Nat → Nat → Prop} (k : Q (some (.int (iI 88))) ph 0 0) : pm_E none (d + 3) pm_mm223 0 [(0, .retAddr 3), (1, .int (iI 4))] [] ph 0 0 Q := by
  refine pm_e_sim pm_a223_0 rfl ?_
  show pm_E _ _ _ 1 [(0, .retAddr 3), (1, .int (iI 4))] [.retAddr 3] _ _ _ _
  refine pm_e_call (T2 := pm_mm217) pm_a223_1 rfl rfl rfl rfl rfl rfl rfl rfl rfl ?_
  refine J_lat3 ?_
  show pm_E _ _ _ 4 [(0, .retAddr 3), (1, .int (iI 4))] [.int (iI 1)] _ _ _ _
  refine pm_e_iff pm_a223_4 rfl (by decide +kernel) ?_
  show pm_E _ _ _ 7 [(0, .retAddr 3), (1, .int (iI 4))] [] _ _ _ _
  refine pm_e_sim pm_a223_7 rfl ?_
  show pm_E _ _ _ 8 [(0, .retAddr 3), (1, .int (iI 4))] [.retAddr 3] _ _ _ _
  refine pm_e_rd (st2 := [.retAddr 4]) pm_a223_8 rfl rfl rfl ?_
  show pm_E _ _ _ 11 [(0, .retAddr 3), (1, .int (iI 4))] [.retAddr 4] _ _ _ _
  refine pm_e_sim pm_a223_11 rfl ?_
  show pm_E _ _ _ 12 [(0, .retAddr 3), (1, .int (iI 4))] [.int (iI 4), .retAddr 4] _ _ _ _
  refine pm_e_call (T2 := pm_mm224) pm_a223_12 rfl rfl rfl rfl rfl rfl rfl rfl rfl ?_
  refine J_slc4 ?_
  show pm_E _ _ _ 15 [(0, .retAddr 3), (1, .int (iI 4))] [.int (iI 88)] _ _ _ _
  refine pm_e_ret pm_a223_15 rfl rfl rfl rfl rfl rfl rfl (by show (if pm_fit .char (.int (iI 88)) = true then some (some (Value.int (iI 88))) else none) = some (some (Value.int (iI 88))); rw [if_pos (by decide +kernel)]) ?_
  exact k
theorem J_ca {d : Nat} {ph : List va_E} {Q : Option Value → List va_E → Nat → Nat → Prop} {i : Int} (h0 : 0 ≤ i) (h1 : i < 5) (k : ∀ v, in32 v → Q (some (.int (iI v))) ph 0 0) : pm_E none (d + 3) pm_mm223 0 [(0, .retAddr 3), (1, .int (iI i))] [] ph 0 0 Q := by
  rcases (by omega : i = 0 ∨ i = 1 ∨ i = 2 ∨ i = 3 ∨ i = 4) with h | h | h | h | h <;> subst h
  · exact J_ca0 (k _ ⟨by omega, by omega⟩)
  · exact J_ca1 (k _ ⟨by omega, by omega⟩)
  · exact J_ca2 (k _ ⟨by omega, by omega⟩)
  · exact J_ca3 (k _ ⟨by omega, by omega⟩)
  · exact J_ca4 (k _ ⟨by omega, by omega⟩)
