/-! THE CLASS: Typer: typeNode, tellType, lengthOfType -/
set_option maxHeartbeats 4000000 in
set_option maxRecDepth 100000 in
theorem C_y_typeNode {d n : Nat} {kd pl : Nat → Nat} {s : Nat → Int} {a : Nat → Int → Int} {c : Nat → cdt} {M : List va_E} {Q : Option Value → List va_E → Nat → Nat → Prop} {x p z : Int} (hW : wf n kd pl) (h203 : al n kd pl 203) (ho : tyO s c) (hx : in32 x) (hp : in32 p) (hz : in32 z) (k : ∀ s' a' c', tyF s a c s' a' c' → Q none (ch n kd pl s' a' c' M) 0 0) : pm_E none (d + 4) pm_mm117 0 [(0, .ref (pl 203)), (1, .int (iI x)), (2, .int (iI p)), (3, .int (iI z))] [] (ch n kd pl s a c M) 0 0 Q := by
  obtain ⟨⟨_, _, _, _⟩, ⟨_, _, _, _⟩, ⟨_, _⟩, ⟨_, _⟩, ⟨_, _⟩⟩ := id ho
  have rb4 := rm_b 4
  have rb5 := rm_b 5
  obtain ⟨_, _⟩ := id hx
  obtain ⟨_, _⟩ := id hp
  obtain ⟨_, _⟩ := id hz
  refine pm_e_sim pm_a117_0 rfl ?_
  show pm_E _ _ _ 1 [(0, .ref (pl 203)), (1, .int (iI x)), (2, .int (iI p)), (3, .int (iI z))] [.int (iI x)] _ _ _ _
  refine pm_i_ne (t := 12) pm_a117_1 rfl ⟨by omega, by omega⟩ (fun h_1 => ?_) (fun h_1 => ?_)
  · skip
    show pm_E _ _ _ 12 [(0, .ref (pl 203)), (1, .int (iI x)), (2, .int (iI p)), (3, .int (iI z))] [] _ _ _ _
    refine pm_e_sim pm_a117_12 rfl ?_
    show pm_E _ _ _ 13 [(0, .ref (pl 203)), (1, .int (iI x)), (2, .int (iI p)), (3, .int (iI z))] [.int (iI x)] _ _ _ _
    refine pm_e_sim pm_a117_13 rfl ?_
    refine pm_e_top (y := iI 1) (by decide +kernel) ?_
    show pm_E _ _ _ 14 [(0, .ref (pl 203)), (1, .int (iI x)), (2, .int (iI p)), (3, .int (iI z))] [.int (iI 1), .int (iI x)] _ _ _ _
    refine pm_c_ne (t := 37) pm_a117_14 rfl ⟨by omega, by omega⟩ ⟨by omega, by omega⟩ (fun h_2 => ?_) (fun h_2 => ?_)
    · skip
      show pm_E _ _ _ 37 [(0, .ref (pl 203)), (1, .int (iI x)), (2, .int (iI p)), (3, .int (iI z))] [] _ _ _ _
      refine pm_e_sim pm_a117_37 rfl ?_
      show pm_E _ _ _ 38 [(0, .ref (pl 203)), (1, .int (iI x)), (2, .int (iI p)), (3, .int (iI z))] [.int (iI x)] _ _ _ _
      refine pm_e_sim pm_a117_38 rfl ?_
      refine pm_e_top (y := iI 10) (by decide +kernel) ?_
      show pm_E _ _ _ 40 [(0, .ref (pl 203)), (1, .int (iI x)), (2, .int (iI p)), (3, .int (iI z))] [.int (iI 10), .int (iI x)] _ _ _ _
      refine pm_c_lt (t := 67) pm_a117_40 rfl ⟨by omega, by omega⟩ ⟨by omega, by omega⟩ (fun h_3 => ?_) (fun h_3 => ?_)
      · skip
        show pm_E _ _ _ 67 [(0, .ref (pl 203)), (1, .int (iI x)), (2, .int (iI p)), (3, .int (iI z))] [] _ _ _ _
        refine pm_e_sim pm_a117_67 rfl ?_
        show pm_E _ _ _ 68 [(0, .ref (pl 203)), (1, .int (iI x)), (2, .int (iI p)), (3, .int (iI z))] [.ref (pl 203)] _ _ _ _
        refine pm_e_sim pm_a117_68 rfl ?_
        show pm_E _ _ _ 69 [(0, .ref (pl 203)), (1, .int (iI x)), (2, .int (iI p)), (3, .int (iI z))] [.int (iI z), .ref (pl 203)] _ _ _ _
        refine pm_e_sim pm_a117_69 rfl ?_
        show pm_E _ _ _ 70 [(0, .ref (pl 203)), (1, .int (iI x)), (2, .int (iI p)), (3, .int (iI z))] [.ref (pl 203), .int (iI z), .ref (pl 203)] _ _ _ _
        refine pm_e_sim pm_a117_70 rfl ?_
        show pm_E _ _ _ 71 [(0, .ref (pl 203)), (1, .int (iI x)), (2, .int (iI p)), (3, .int (iI z))] [.int (iI x), .ref (pl 203), .int (iI z), .ref (pl 203)] _ _ _ _
        refine pm_i_callv (k := (pl 203)) (T2 := pm_mm126) pm_a117_71 rfl rfl rfl (cg_203 hW h203) ⟨Nat.le_of_ble_eq_true rfl, Nat.le_of_ble_eq_true rfl, rfl, by decide +kernel⟩ ?_
        show pm_E none _ _ 0 [(0, .ref (pl 203)), (1, .int (iI x))] [] _ _ _ _
        have f_4 := (tyF_r (a := a) ho)
        refine C_y_typeOfLetter hW h203 f_4.2.2.2 ⟨by omega, by omega⟩ (fun s_4 a_4 c_4 v_4 g_4 b_4 => ?_)
        have e_4 := g_4.2.2.2
        obtain ⟨⟨_, _, _, _⟩, ⟨_, _, _, _⟩, ⟨_, _⟩, ⟨_, _⟩, ⟨_, _⟩⟩ := e_4
        obtain ⟨_, _⟩ := b_4
        show pm_E _ _ _ 74 [(0, .ref (pl 203)), (1, .int (iI x)), (2, .int (iI p)), (3, .int (iI z))] [.int (iI v_4), .int (iI z), .ref (pl 203)] _ _ _ _
        refine pm_i_callv (k := (pl 203)) (T2 := pm_mm120) pm_a117_74 rfl rfl rfl (cg_203 hW h203) ⟨Nat.le_of_ble_eq_true rfl, Nat.le_of_ble_eq_true rfl, rfl, by decide +kernel⟩ ?_
        show pm_E none _ _ 0 [(0, .ref (pl 203)), (1, .int (iI z)), (2, .int (iI v_4))] [] _ _ _ _
        have f_5 := (tyF_t f_4 g_4)
        refine C_y_joinAll hW h203 f_5.2.2.2 ⟨by omega, by omega⟩ ⟨by omega, by omega⟩ (fun s_5 a_5 c_5  g_5  => ?_)
        have e_5 := g_5.2.2.2
        obtain ⟨⟨_, _, _, _⟩, ⟨_, _, _, _⟩, ⟨_, _⟩, ⟨_, _⟩, ⟨_, _⟩⟩ := e_5
        show pm_E _ _ _ 77 [(0, .ref (pl 203)), (1, .int (iI x)), (2, .int (iI p)), (3, .int (iI z))] [] _ _ _ _
        refine pm_e_ret pm_a117_77 rfl rfl rfl rfl rfl rfl rfl rfl ?_
        exact k _ _ _ (tyF_t f_5 g_5)
      · skip
        show pm_E _ _ _ 43 [(0, .ref (pl 203)), (1, .int (iI x)), (2, .int (iI p)), (3, .int (iI z))] [] _ _ _ _
        refine pm_e_sim pm_a117_43 rfl ?_
        show pm_E _ _ _ 44 [(0, .ref (pl 203)), (1, .int (iI x)), (2, .int (iI p)), (3, .int (iI z))] [.ref (pl 203)] _ _ _ _
        refine pm_e_sim pm_a117_44 rfl ?_
        show pm_E _ _ _ 45 [(0, .ref (pl 203)), (1, .int (iI x)), (2, .int (iI p)), (3, .int (iI z))] [.int (iI z), .ref (pl 203)] _ _ _ _
        refine pm_e_sim pm_a117_45 rfl ?_
        show pm_E _ _ _ 46 [(0, .ref (pl 203)), (1, .int (iI x)), (2, .int (iI p)), (3, .int (iI z))] [.ref (pl 203), .int (iI z), .ref (pl 203)] _ _ _ _
        refine pm_i_get pm_a117_46 rfl (cg_203 hW h203) rfl ?_
        show pm_E _ _ _ 49 [(0, .ref (pl 203)), (1, .int (iI x)), (2, .int (iI p)), (3, .int (iI z))] [.ref (pl 209), .int (iI z), .ref (pl 203)] _ _ _ _
        refine pm_e_sim pm_a117_49 rfl ?_
        show pm_E _ _ _ 50 [(0, .ref (pl 203)), (1, .int (iI x)), (2, .int (iI p)), (3, .int (iI z))] [.ref (pl 203), .ref (pl 209), .int (iI z), .ref (pl 203)] _ _ _ _
        refine pm_i_get pm_a117_50 rfl (cg_203 hW h203) rfl ?_
        show pm_E _ _ _ 53 [(0, .ref (pl 203)), (1, .int (iI x)), (2, .int (iI p)), (3, .int (iI z))] [.ref (pl 6), .ref (pl 209), .int (iI z), .ref (pl 203)] _ _ _ _
        refine pm_e_sim pm_a117_53 rfl ?_
        show pm_E _ _ _ 54 [(0, .ref (pl 203)), (1, .int (iI x)), (2, .int (iI p)), (3, .int (iI z))] [.int (iI x), .ref (pl 6), .ref (pl 209), .int (iI z), .ref (pl 203)] _ _ _ _
        refine pm_e_sim pm_a117_54 rfl ?_
        show pm_E _ _ _ 55 [(0, .ref (pl 203)), (1, .int (iI x)), (2, .int (iI p)), (3, .int (iI z))] [.int (iI p), .int (iI x), .ref (pl 6), .ref (pl 209), .int (iI z), .ref (pl 203)] _ _ _ _
        refine pm_i_callv (k := (pl 6)) (T2 := pm_mm80) pm_a117_55 rfl rfl rfl (cg_6 hW) ⟨Nat.le_of_ble_eq_true rfl, Nat.le_of_ble_eq_true rfl, rfl, by decide +kernel⟩ ?_
        show pm_E none _ _ 0 [(0, .ref (pl 6)), (1, .int (iI x)), (2, .int (iI p))] [] _ _ _ _
        refine C_binderDepth hW ⟨by omega, by omega⟩ ?_
        refine pm_e_hav (fun v_6 b_6 => ?_)
        obtain ⟨_, _⟩ := b_6
        show pm_E _ _ _ 58 [(0, .ref (pl 203)), (1, .int (iI x)), (2, .int (iI p)), (3, .int (iI z))] [.int (iI v_6), .ref (pl 209), .int (iI z), .ref (pl 203)] _ _ _ _
        refine pm_e_call (T2 := pm_mm123) pm_a117_58 rfl rfl rfl rfl rfl rfl rfl rfl rfl ?_
        show pm_E none _ _ 0 [(0, .ref (pl 209)), (1, .int (iI v_6))] [] _ _ _ _
        refine C_yat_209 hW h203 ⟨by omega, by omega⟩ (fun v_7 b_7 => ?_)
        obtain ⟨_, _⟩ := b_7
        show pm_E _ _ _ 61 [(0, .ref (pl 203)), (1, .int (iI x)), (2, .int (iI p)), (3, .int (iI z))] [.int (iI v_7), .int (iI z), .ref (pl 203)] _ _ _ _
        refine pm_i_callv (k := (pl 203)) (T2 := pm_mm120) pm_a117_61 rfl rfl rfl (cg_203 hW h203) ⟨Nat.le_of_ble_eq_true rfl, Nat.le_of_ble_eq_true rfl, rfl, by decide +kernel⟩ ?_
        show pm_E none _ _ 0 [(0, .ref (pl 203)), (1, .int (iI z)), (2, .int (iI v_7))] [] _ _ _ _
        have f_8 := (tyF_r (a := a) ho)
        refine C_y_joinAll hW h203 f_8.2.2.2 ⟨by omega, by omega⟩ ⟨by omega, by omega⟩ (fun s_8 a_8 c_8  g_8  => ?_)
        have e_8 := g_8.2.2.2
        obtain ⟨⟨_, _, _, _⟩, ⟨_, _, _, _⟩, ⟨_, _⟩, ⟨_, _⟩, ⟨_, _⟩⟩ := e_8
        show pm_E _ _ _ 64 [(0, .ref (pl 203)), (1, .int (iI x)), (2, .int (iI p)), (3, .int (iI z))] [] _ _ _ _
        refine pm_e_goto pm_a117_64 rfl ?_
        show pm_E _ _ _ 77 [(0, .ref (pl 203)), (1, .int (iI x)), (2, .int (iI p)), (3, .int (iI z))] [] _ _ _ _
        refine pm_e_ret pm_a117_77 rfl rfl rfl rfl rfl rfl rfl rfl ?_
        exact k _ _ _ (tyF_t f_8 g_8)
    · skip
      show pm_E _ _ _ 17 [(0, .ref (pl 203)), (1, .int (iI x)), (2, .int (iI p)), (3, .int (iI z))] [] _ _ _ _
      refine pm_e_sim pm_a117_17 rfl ?_
      show pm_E _ _ _ 18 [(0, .ref (pl 203)), (1, .int (iI x)), (2, .int (iI p)), (3, .int (iI z))] [.ref (pl 203)] _ _ _ _
      refine pm_e_sim pm_a117_18 rfl ?_
      show pm_E _ _ _ 19 [(0, .ref (pl 203)), (1, .int (iI x)), (2, .int (iI p)), (3, .int (iI z))] [.int (iI z), .ref (pl 203)] _ _ _ _
      refine pm_e_sim pm_a117_19 rfl ?_
      show pm_E _ _ _ 20 [(0, .ref (pl 203)), (1, .int (iI x)), (2, .int (iI p)), (3, .int (iI z))] [.ref (pl 203), .int (iI z), .ref (pl 203)] _ _ _ _
      refine pm_e_sim pm_a117_20 rfl ?_
      show pm_E _ _ _ 21 [(0, .ref (pl 203)), (1, .int (iI x)), (2, .int (iI p)), (3, .int (iI z))] [.ref (pl 203), .ref (pl 203), .int (iI z), .ref (pl 203)] _ _ _ _
      refine pm_i_get pm_a117_21 rfl (cg_203 hW h203) rfl ?_
      show pm_E _ _ _ 24 [(0, .ref (pl 203)), (1, .int (iI x)), (2, .int (iI p)), (3, .int (iI z))] [.ref (pl 6), .ref (pl 203), .int (iI z), .ref (pl 203)] _ _ _ _
      refine pm_e_sim pm_a117_24 rfl ?_
      show pm_E _ _ _ 25 [(0, .ref (pl 203)), (1, .int (iI x)), (2, .int (iI p)), (3, .int (iI z))] [.int (iI p), .ref (pl 6), .ref (pl 203), .int (iI z), .ref (pl 203)] _ _ _ _
      refine pm_i_callv (k := (pl 6)) (T2 := pm_mm75) pm_a117_25 rfl rfl rfl (cg_6 hW) ⟨Nat.le_of_ble_eq_true rfl, Nat.le_of_ble_eq_true rfl, rfl, by decide +kernel⟩ ?_
      show pm_E none _ _ 0 [(0, .ref (pl 6)), (1, .int (iI p))] [] _ _ _ _
      refine C_depthOf hW ⟨by omega, by omega⟩ ?_
      refine pm_e_hav (fun v_9 b_9 => ?_)
      obtain ⟨_, _⟩ := b_9
      show pm_E _ _ _ 28 [(0, .ref (pl 203)), (1, .int (iI x)), (2, .int (iI p)), (3, .int (iI z))] [.int (iI v_9), .ref (pl 203), .int (iI z), .ref (pl 203)] _ _ _ _
      refine pm_i_callv (k := (pl 203)) (T2 := pm_mm119) pm_a117_28 rfl rfl rfl (cg_203 hW h203) ⟨Nat.le_of_ble_eq_true rfl, Nat.le_of_ble_eq_true rfl, rfl, by decide +kernel⟩ ?_
      show pm_E none _ _ 0 [(0, .ref (pl 203)), (1, .int (iI v_9))] [] _ _ _ _
      have f_10 := (tyF_r (a := a) ho)
      refine C_y_typeOfLambda hW h203 f_10.2.2.2 ⟨by omega, by omega⟩ (fun s_10 a_10 c_10 v_10 g_10 b_10 => ?_)
      have e_10 := g_10.2.2.2
      obtain ⟨⟨_, _, _, _⟩, ⟨_, _, _, _⟩, ⟨_, _⟩, ⟨_, _⟩, ⟨_, _⟩⟩ := e_10
      obtain ⟨_, _⟩ := b_10
      show pm_E _ _ _ 31 [(0, .ref (pl 203)), (1, .int (iI x)), (2, .int (iI p)), (3, .int (iI z))] [.int (iI v_10), .int (iI z), .ref (pl 203)] _ _ _ _
      refine pm_i_callv (k := (pl 203)) (T2 := pm_mm120) pm_a117_31 rfl rfl rfl (cg_203 hW h203) ⟨Nat.le_of_ble_eq_true rfl, Nat.le_of_ble_eq_true rfl, rfl, by decide +kernel⟩ ?_
      show pm_E none _ _ 0 [(0, .ref (pl 203)), (1, .int (iI z)), (2, .int (iI v_10))] [] _ _ _ _
      have f_11 := (tyF_t f_10 g_10)
      refine C_y_joinAll hW h203 f_11.2.2.2 ⟨by omega, by omega⟩ ⟨by omega, by omega⟩ (fun s_11 a_11 c_11  g_11  => ?_)
      have e_11 := g_11.2.2.2
      obtain ⟨⟨_, _, _, _⟩, ⟨_, _, _, _⟩, ⟨_, _⟩, ⟨_, _⟩, ⟨_, _⟩⟩ := e_11
      show pm_E _ _ _ 34 [(0, .ref (pl 203)), (1, .int (iI x)), (2, .int (iI p)), (3, .int (iI z))] [] _ _ _ _
      refine pm_e_goto pm_a117_34 rfl ?_
      show pm_E _ _ _ 77 [(0, .ref (pl 203)), (1, .int (iI x)), (2, .int (iI p)), (3, .int (iI z))] [] _ _ _ _
      refine pm_e_ret pm_a117_77 rfl rfl rfl rfl rfl rfl rfl rfl ?_
      exact k _ _ _ (tyF_t f_11 g_11)
  · skip
    show pm_E _ _ _ 4 [(0, .ref (pl 203)), (1, .int (iI x)), (2, .int (iI p)), (3, .int (iI z))] [] _ _ _ _
    refine pm_e_sim pm_a117_4 rfl ?_
    show pm_E _ _ _ 5 [(0, .ref (pl 203)), (1, .int (iI x)), (2, .int (iI p)), (3, .int (iI z))] [.ref (pl 203)] _ _ _ _
    refine pm_e_sim pm_a117_5 rfl ?_
    show pm_E _ _ _ 6 [(0, .ref (pl 203)), (1, .int (iI x)), (2, .int (iI p)), (3, .int (iI z))] [.int (iI z), .ref (pl 203)] _ _ _ _
    refine pm_i_callv (k := (pl 203)) (T2 := pm_mm118) pm_a117_6 rfl rfl rfl (cg_203 hW h203) ⟨Nat.le_of_ble_eq_true rfl, Nat.le_of_ble_eq_true rfl, rfl, by decide +kernel⟩ ?_
    show pm_E none _ _ 0 [(0, .ref (pl 203)), (1, .int (iI z))] [] _ _ _ _
    have f_12 := (tyF_r (a := a) ho)
    refine C_y_typeApply hW h203 f_12.2.2.2 ⟨by omega, by omega⟩ (fun s_12 a_12 c_12  g_12  => ?_)
    have e_12 := g_12.2.2.2
    obtain ⟨⟨_, _, _, _⟩, ⟨_, _, _, _⟩, ⟨_, _⟩, ⟨_, _⟩, ⟨_, _⟩⟩ := e_12
    show pm_E _ _ _ 9 [(0, .ref (pl 203)), (1, .int (iI x)), (2, .int (iI p)), (3, .int (iI z))] [] _ _ _ _
    refine pm_e_goto pm_a117_9 rfl ?_
    show pm_E _ _ _ 77 [(0, .ref (pl 203)), (1, .int (iI x)), (2, .int (iI p)), (3, .int (iI z))] [] _ _ _ _
    refine pm_e_ret pm_a117_77 rfl rfl rfl rfl rfl rfl rfl rfl ?_
    exact k _ _ _ (tyF_t f_12 g_12)
set_option maxHeartbeats 4000000 in
set_option maxRecDepth 100000 in
theorem C_y_tell_l {d n : Nat} {kd pl : Nat → Nat} {M : List va_E} {Q : Option Value → List va_E → Nat → Nat → Prop} {x : Int} (hW : wf n kd pl) (h203 : al n kd pl 203) : ∀ (f : Nat) (m i : Int) (s : Nat → Int) (a : Nat → Int → Int) (c : Nat → cdt), 0 ≤ m → m ≤ i → i ≤ 501 → tyO s c → (∀ s' a' c', tyF s a c s' a' c' → Q none (ch n kd pl s' a' c' M) 0 0) → 501 - i < (f : Int) → pm_E none (d + 3) pm_mm135 25 [(0, .ref (pl 203)), (1, .int (iI x)), (2, .int (iI m)), (3, .int (iI i))] [] (ch n kd pl s a c M) 0 0 Q := by
  intro f
  induction f with
  | zero =>
    intro m i s a c hm0 hm1 hi1 ho k hf
    exfalso; omega
  | succ f ih =>
    intro m i s a c hm0 hm1 hi1 ho k hf
    obtain ⟨⟨_, _, _, _⟩, ⟨_, _, _, _⟩, ⟨_, _⟩, ⟨_, _⟩, ⟨_, _⟩⟩ := id ho
    have rb4 := rm_b 4
    have rb5 := rm_b 5
    refine pm_e_sim pm_a135_25 rfl ?_
    show pm_E _ _ _ 26 [(0, .ref (pl 203)), (1, .int (iI x)), (2, .int (iI m)), (3, .int (iI i))] [.int (iI i)] _ _ _ _
    refine pm_e_sim pm_a135_26 rfl ?_
    refine pm_e_top (y := iI 500) (by decide +kernel) ?_
    show pm_E _ _ _ 29 [(0, .ref (pl 203)), (1, .int (iI x)), (2, .int (iI m)), (3, .int (iI i))] [.int (iI 500), .int (iI i)] _ _ _ _
    refine pm_c_gt (t := 152) pm_a135_29 rfl ⟨by omega, by omega⟩ ⟨by omega, by omega⟩ (fun h_1 => ?_) (fun h_1 => ?_)
    · skip
      show pm_E _ _ _ 152 [(0, .ref (pl 203)), (1, .int (iI x)), (2, .int (iI m)), (3, .int (iI i))] [] _ _ _ _
      refine pm_e_ret pm_a135_152 rfl rfl rfl rfl rfl rfl rfl rfl ?_
      exact k _ _ _ (tyF_r (a := a) ho)
    · skip
      show pm_E _ _ _ 32 [(0, .ref (pl 203)), (1, .int (iI x)), (2, .int (iI m)), (3, .int (iI i))] [] _ _ _ _
      refine pm_e_sim pm_a135_32 rfl ?_
      show pm_E _ _ _ 33 [(0, .ref (pl 203)), (1, .int (iI x)), (2, .int (iI m)), (3, .int (iI i))] [.ref (pl 203)] _ _ _ _
      refine pm_i_get pm_a135_33 rfl (cg_203 hW h203) rfl ?_
      show pm_E _ _ _ 36 [(0, .ref (pl 203)), (1, .int (iI x)), (2, .int (iI m)), (3, .int (iI i))] [.int (iI (s 21))] _ _ _ _
      refine pm_i_le (t := 152) pm_a135_36 rfl ⟨by omega, by omega⟩ (fun h_2 => ?_) (fun h_2 => ?_)
      · skip
        show pm_E _ _ _ 152 [(0, .ref (pl 203)), (1, .int (iI x)), (2, .int (iI m)), (3, .int (iI i))] [] _ _ _ _
        refine pm_e_ret pm_a135_152 rfl rfl rfl rfl rfl rfl rfl rfl ?_
        exact k _ _ _ (tyF_r (a := a) ho)
      · skip
        show pm_E _ _ _ 39 [(0, .ref (pl 203)), (1, .int (iI x)), (2, .int (iI m)), (3, .int (iI i))] [] _ _ _ _
        refine pm_e_sim pm_a135_39 rfl ?_
        show pm_E _ _ _ 40 [(0, .ref (pl 203)), (1, .int (iI x)), (2, .int (iI m)), (3, .int (iI i))] [.ref (pl 203)] _ _ _ _
        refine pm_i_get pm_a135_40 rfl (cg_203 hW h203) rfl ?_
        show pm_E _ _ _ 43 [(0, .ref (pl 203)), (1, .int (iI x)), (2, .int (iI m)), (3, .int (iI i))] [.ref (pl (60 + 2 * 4))] _ _ _ _
        refine pm_i_get pm_a135_43 rfl (cg_o (cj4 hW h203)) rfl ?_
        show pm_E _ _ _ 46 [(0, .ref (pl 203)), (1, .int (iI x)), (2, .int (iI m)), (3, .int (iI i))] [.int (iI ((c 4).2.1))] _ _ _ _
        refine pm_i_ne (t := 152) pm_a135_46 rfl ⟨by omega, by omega⟩ (fun h_3 => ?_) (fun h_3 => ?_)
        · skip
          show pm_E _ _ _ 152 [(0, .ref (pl 203)), (1, .int (iI x)), (2, .int (iI m)), (3, .int (iI i))] [] _ _ _ _
          refine pm_e_ret pm_a135_152 rfl rfl rfl rfl rfl rfl rfl rfl ?_
          exact k _ _ _ (tyF_r (a := a) ho)
        · skip
          show pm_E _ _ _ 49 [(0, .ref (pl 203)), (1, .int (iI x)), (2, .int (iI m)), (3, .int (iI i))] [] _ _ _ _
          refine pm_e_sim pm_a135_49 rfl ?_
          show pm_E _ _ _ 50 [(0, .ref (pl 203)), (1, .int (iI x)), (2, .int (iI m)), (3, .int (iI i))] [.ref (pl 203)] _ _ _ _
          refine pm_e_sim pm_a135_50 rfl ?_
          show pm_E _ _ _ 51 [(0, .ref (pl 203)), (1, .int (iI x)), (2, .int (iI m)), (3, .int (iI i))] [.ref (pl 203), .ref (pl 203)] _ _ _ _
          refine pm_i_callv (k := (pl 203)) (T2 := pm_mm116) pm_a135_51 rfl rfl rfl (cg_203 hW h203) ⟨Nat.le_of_ble_eq_true rfl, Nat.le_of_ble_eq_true rfl, rfl, by decide +kernel⟩ ?_
          show pm_E none _ _ 0 [(0, .ref (pl 203))] [] _ _ _ _
          have f_4 := (tyF_r (a := a) ho)
          refine C_y_nextWaiting hW h203 f_4.2.2.2  (fun s_4 a_4 c_4 v_4 g_4 b_4 => ?_)
          have e_4 := g_4.2.2.2
          obtain ⟨⟨_, _, _, _⟩, ⟨_, _, _, _⟩, ⟨_, _⟩, ⟨_, _⟩, ⟨_, _⟩⟩ := e_4
          obtain ⟨_, _⟩ := b_4
          show pm_E _ _ _ 54 [(0, .ref (pl 203)), (1, .int (iI x)), (2, .int (iI m)), (3, .int (iI i))] [.int (iI v_4), .ref (pl 203)] _ _ _ _
          refine pm_i_callv (k := (pl 203)) (T2 := pm_mm122) pm_a135_54 rfl rfl rfl (cg_203 hW h203) ⟨Nat.le_of_ble_eq_true rfl, Nat.le_of_ble_eq_true rfl, rfl, by decide +kernel⟩ ?_
          show pm_E none _ _ 0 [(0, .ref (pl 203)), (1, .int (iI v_4))] [] _ _ _ _
          have f_5 := (tyF_t f_4 g_4)
          refine C_y_rootOf hW h203 f_5.2.2.2 ⟨by omega, by omega⟩ (fun s_5 a_5 c_5 v_5 g_5 b_5 => ?_)
          have e_5 := g_5.2.2.2
          obtain ⟨⟨_, _, _, _⟩, ⟨_, _, _, _⟩, ⟨_, _⟩, ⟨_, _⟩, ⟨_, _⟩⟩ := e_5
          obtain ⟨_, _⟩ := b_5
          show pm_E _ _ _ 57 [(0, .ref (pl 203)), (1, .int (iI x)), (2, .int (iI m)), (3, .int (iI i))] [.int (iI v_5)] _ _ _ _
          refine pm_e_sim pm_a135_57 rfl ?_
          show pm_E _ _ _ 59 [(0, .ref (pl 203)), (1, .int (iI x)), (2, .int (iI m)), (3, .int (iI i)), (4, .int (iI v_5))] [] _ _ _ _
          refine pm_e_sim pm_a135_59 rfl ?_
          show pm_E _ _ _ 60 [(0, .ref (pl 203)), (1, .int (iI x)), (2, .int (iI m)), (3, .int (iI i)), (4, .int (iI v_5))] [.ref (pl 203)] _ _ _ _
          refine pm_e_sim pm_a135_60 rfl ?_
          show pm_E _ _ _ 62 [(0, .ref (pl 203)), (1, .int (iI x)), (2, .int (iI m)), (3, .int (iI i)), (4, .int (iI v_5))] [.int (iI v_5), .ref (pl 203)] _ _ _ _
          refine pm_i_callv (k := (pl 203)) (T2 := pm_mm124) pm_a135_62 rfl rfl rfl (cg_203 hW h203) ⟨Nat.le_of_ble_eq_true rfl, Nat.le_of_ble_eq_true rfl, rfl, by decide +kernel⟩ ?_
          show pm_E none _ _ 0 [(0, .ref (pl 203)), (1, .int (iI v_5))] [] _ _ _ _
          refine C_y_isArrow hW h203 ⟨by omega, by omega⟩ ?_ ?_
          · skip
            show pm_E _ _ _ 65 [(0, .ref (pl 203)), (1, .int (iI x)), (2, .int (iI m)), (3, .int (iI i)), (4, .int (iI v_5))] [.int (iI 1)] _ _ _ _
            refine pm_e_iff pm_a135_65 rfl (by decide +kernel) ?_
            show pm_E _ _ _ 68 [(0, .ref (pl 203)), (1, .int (iI x)), (2, .int (iI m)), (3, .int (iI i)), (4, .int (iI v_5))] [] _ _ _ _
            refine pm_e_sim pm_a135_68 rfl ?_
            show pm_E _ _ _ 69 [(0, .ref (pl 203)), (1, .int (iI x)), (2, .int (iI m)), (3, .int (iI i)), (4, .int (iI v_5))] [.ref (pl 203)] _ _ _ _
            refine pm_i_get pm_a135_69 rfl (cg_203 hW h203) rfl ?_
            show pm_E _ _ _ 72 [(0, .ref (pl 203)), (1, .int (iI x)), (2, .int (iI m)), (3, .int (iI i)), (4, .int (iI v_5))] [.ref (pl (60 + 2 * 4))] _ _ _ _
            refine pm_e_sim pm_a135_72 rfl ?_
            refine pm_e_top (y := iI 0) (by decide +kernel) ?_
            show pm_E _ _ _ 73 [(0, .ref (pl 203)), (1, .int (iI x)), (2, .int (iI m)), (3, .int (iI i)), (4, .int (iI v_5))] [.int (iI 0), .ref (pl (60 + 2 * 4))] _ _ _ _
            refine pm_i_callv (k := (pl (60 + 2 * 4))) (T2 := pm_mm40) pm_a135_73 rfl rfl rfl (cg_o (cj4 hW h203)) ⟨Nat.le_of_ble_eq_true rfl, Nat.le_of_ble_eq_true rfl, rfl, by decide +kernel⟩ ?_
            show pm_E none _ _ 0 [(0, .ref (pl (60 + 2 * 4))), (1, .int (iI 0))] [] _ _ _ _
            have f_6 := (tyF_t f_5 g_5)
            obtain ⟨l_6, m_6⟩ := okx_md f_6.2.2.2.1
            refine C_put hW (cj4 hW h203) m_6 (by decide) (fun y_6 g_6 => ?_)
            obtain ⟨_, _, _, _⟩ := id g_6.1
            show pm_E _ _ _ 76 [(0, .ref (pl 203)), (1, .int (iI x)), (2, .int (iI m)), (3, .int (iI i)), (4, .int (iI v_5))] [] _ _ _ _
            refine pm_e_sim pm_a135_76 rfl ?_
            show pm_E _ _ _ 77 [(0, .ref (pl 203)), (1, .int (iI x)), (2, .int (iI m)), (3, .int (iI i)), (4, .int (iI v_5))] [.ref (pl 203)] _ _ _ _
            refine pm_e_sim pm_a135_77 rfl ?_
            show pm_E _ _ _ 78 [(0, .ref (pl 203)), (1, .int (iI x)), (2, .int (iI m)), (3, .int (iI i)), (4, .int (iI v_5))] [.ref (pl 203), .ref (pl 203)] _ _ _ _
            refine pm_i_get pm_a135_78 rfl (cg_203 hW h203) rfl ?_
            show pm_E _ _ _ 81 [(0, .ref (pl 203)), (1, .int (iI x)), (2, .int (iI m)), (3, .int (iI i)), (4, .int (iI v_5))] [.ref (pl 205), .ref (pl 203)] _ _ _ _
            refine pm_e_sim pm_a135_81 rfl ?_
            show pm_E _ _ _ 83 [(0, .ref (pl 203)), (1, .int (iI x)), (2, .int (iI m)), (3, .int (iI i)), (4, .int (iI v_5))] [.int (iI v_5), .ref (pl 205), .ref (pl 203)] _ _ _ _
            refine pm_e_call (T2 := pm_mm123) pm_a135_83 rfl rfl rfl rfl rfl rfl rfl rfl rfl ?_
            show pm_E none _ _ 0 [(0, .ref (pl 205)), (1, .int (iI v_5))] [] _ _ _ _
            refine C_yat_205 hW h203 ⟨by omega, by omega⟩ (fun v_7 b_7 => ?_)
            obtain ⟨_, _⟩ := b_7
            show pm_E _ _ _ 86 [(0, .ref (pl 203)), (1, .int (iI x)), (2, .int (iI m)), (3, .int (iI i)), (4, .int (iI v_5))] [.int (iI v_7), .ref (pl 203)] _ _ _ _
            refine pm_i_callv (k := (pl 203)) (T2 := pm_mm115) pm_a135_86 rfl rfl rfl (cg_203 hW h203) ⟨Nat.le_of_ble_eq_true rfl, Nat.le_of_ble_eq_true rfl, rfl, by decide +kernel⟩ ?_
            show pm_E none _ _ 0 [(0, .ref (pl 203)), (1, .int (iI v_7))] [] _ _ _ _
            have f_8 := (tyF_c4 f_6 g_6.1)
            refine C_y_await hW h203 f_8.2.2.2 ⟨by omega, by omega⟩ (fun s_8 a_8 c_8  g_8  => ?_)
            have e_8 := g_8.2.2.2
            obtain ⟨⟨_, _, _, _⟩, ⟨_, _, _, _⟩, ⟨_, _⟩, ⟨_, _⟩, ⟨_, _⟩⟩ := e_8
            show pm_E _ _ _ 89 [(0, .ref (pl 203)), (1, .int (iI x)), (2, .int (iI m)), (3, .int (iI i)), (4, .int (iI v_5))] [] _ _ _ _
            refine pm_e_sim pm_a135_89 rfl ?_
            show pm_E _ _ _ 90 [(0, .ref (pl 203)), (1, .int (iI x)), (2, .int (iI m)), (3, .int (iI i)), (4, .int (iI v_5))] [.ref (pl 203)] _ _ _ _
            refine pm_e_sim pm_a135_90 rfl ?_
            show pm_E _ _ _ 91 [(0, .ref (pl 203)), (1, .int (iI x)), (2, .int (iI m)), (3, .int (iI i)), (4, .int (iI v_5))] [.ref (pl 203), .ref (pl 203)] _ _ _ _
            refine pm_i_get pm_a135_91 rfl (cg_203 hW h203) rfl ?_
            show pm_E _ _ _ 94 [(0, .ref (pl 203)), (1, .int (iI x)), (2, .int (iI m)), (3, .int (iI i)), (4, .int (iI v_5))] [.ref (pl 204), .ref (pl 203)] _ _ _ _
            refine pm_e_sim pm_a135_94 rfl ?_
            show pm_E _ _ _ 96 [(0, .ref (pl 203)), (1, .int (iI x)), (2, .int (iI m)), (3, .int (iI i)), (4, .int (iI v_5))] [.int (iI v_5), .ref (pl 204), .ref (pl 203)] _ _ _ _
            refine pm_e_call (T2 := pm_mm123) pm_a135_96 rfl rfl rfl rfl rfl rfl rfl rfl rfl ?_
            show pm_E none _ _ 0 [(0, .ref (pl 204)), (1, .int (iI v_5))] [] _ _ _ _
            refine C_yat_204 hW h203 ⟨by omega, by omega⟩ (fun v_9 b_9 => ?_)
            obtain ⟨_, _⟩ := b_9
            show pm_E _ _ _ 99 [(0, .ref (pl 203)), (1, .int (iI x)), (2, .int (iI m)), (3, .int (iI i)), (4, .int (iI v_5))] [.int (iI v_9), .ref (pl 203)] _ _ _ _
            refine pm_i_callv (k := (pl 203)) (T2 := pm_mm115) pm_a135_99 rfl rfl rfl (cg_203 hW h203) ⟨Nat.le_of_ble_eq_true rfl, Nat.le_of_ble_eq_true rfl, rfl, by decide +kernel⟩ ?_
            show pm_E none _ _ 0 [(0, .ref (pl 203)), (1, .int (iI v_9))] [] _ _ _ _
            have f_10 := (tyF_t f_8 g_8)
            refine C_y_await hW h203 f_10.2.2.2 ⟨by omega, by omega⟩ (fun s_10 a_10 c_10  g_10  => ?_)
            have e_10 := g_10.2.2.2
            obtain ⟨⟨_, _, _, _⟩, ⟨_, _, _, _⟩, ⟨_, _⟩, ⟨_, _⟩, ⟨_, _⟩⟩ := e_10
            show pm_E _ _ _ 102 [(0, .ref (pl 203)), (1, .int (iI x)), (2, .int (iI m)), (3, .int (iI i)), (4, .int (iI v_5))] [] _ _ _ _
            refine pm_e_goto pm_a135_102 rfl ?_
            show pm_E _ _ _ 146 [(0, .ref (pl 203)), (1, .int (iI x)), (2, .int (iI m)), (3, .int (iI i)), (4, .int (iI v_5))] [] _ _ _ _
            refine pm_e_inc (y := iI (i + 1)) pm_a135_146 rfl (iI_add _ _) (by decide +kernel) rfl ?_
            show pm_E _ _ _ 149 [(0, .ref (pl 203)), (1, .int (iI x)), (2, .int (iI m)), (3, .int (iI (i + 1))), (4, .int (iI v_5))] [] _ _ _ _
            refine pm_e_goto pm_a135_149 rfl ?_
            show pm_E _ _ _ 25 [(0, .ref (pl 203)), (1, .int (iI x)), (2, .int (iI m)), (3, .int (iI (i + 1))), (4, .int (iI v_5))] [] _ _ _ _
            show pm_E _ _ _ 25 ([(0, .ref (pl 203)), (1, .int (iI x)), (2, .int (iI m)), (3, .int (iI (i + 1)))] ++ [(4, .int (iI v_5))]) [] _ _ _ _
            refine pm_e_more [(4, .int (iI v_5))] (show ([0, 1, 2, 3, 4] : List Nat).Nodup from by decide) ?_
            have f_11 := (tyF_t f_10 g_10)
            exact ih m (i + 1) _ _ _ (by omega) (by omega) (by omega) f_11.2.2.2 (fun s2 a2 c2 f2 => k s2 a2 c2 (tyF_t f_11 f2)) (by omega)
          · skip
            show pm_E _ _ _ 65 [(0, .ref (pl 203)), (1, .int (iI x)), (2, .int (iI m)), (3, .int (iI i)), (4, .int (iI v_5))] [.int (iI 0)] _ _ _ _
            refine pm_e_ift pm_a135_65 rfl (by decide +kernel) ?_
            show pm_E _ _ _ 105 [(0, .ref (pl 203)), (1, .int (iI x)), (2, .int (iI m)), (3, .int (iI i)), (4, .int (iI v_5))] [] _ _ _ _
            refine pm_e_sim pm_a135_105 rfl ?_
            show pm_E _ _ _ 106 [(0, .ref (pl 203)), (1, .int (iI x)), (2, .int (iI m)), (3, .int (iI i)), (4, .int (iI v_5))] [.ref (pl 203)] _ _ _ _
            refine pm_i_get pm_a135_106 rfl (cg_203 hW h203) rfl ?_
            show pm_E _ _ _ 109 [(0, .ref (pl 203)), (1, .int (iI x)), (2, .int (iI m)), (3, .int (iI i)), (4, .int (iI v_5))] [.ref (pl 208)] _ _ _ _
            refine pm_e_sim pm_a135_109 rfl ?_
            show pm_E _ _ _ 111 [(0, .ref (pl 203)), (1, .int (iI x)), (2, .int (iI m)), (3, .int (iI i)), (4, .int (iI v_5))] [.int (iI v_5), .ref (pl 208)] _ _ _ _
            refine pm_e_call (T2 := pm_mm123) pm_a135_111 rfl rfl rfl rfl rfl rfl rfl rfl rfl ?_
            show pm_E none _ _ 0 [(0, .ref (pl 208)), (1, .int (iI v_5))] [] _ _ _ _
            refine C_yat_208 hW h203 ⟨by omega, by omega⟩ (fun v_12 b_12 => ?_)
            obtain ⟨_, _⟩ := b_12
            show pm_E _ _ _ 114 [(0, .ref (pl 203)), (1, .int (iI x)), (2, .int (iI m)), (3, .int (iI i)), (4, .int (iI v_5))] [.int (iI v_12)] _ _ _ _
            refine pm_i_ne (t := 130) pm_a135_114 rfl ⟨by omega, by omega⟩ (fun h_13 => ?_) (fun h_13 => ?_)
            · skip
              show pm_E _ _ _ 130 [(0, .ref (pl 203)), (1, .int (iI x)), (2, .int (iI m)), (3, .int (iI i)), (4, .int (iI v_5))] [] _ _ _ _
              refine pm_e_sim pm_a135_130 rfl ?_
              show pm_E _ _ _ 131 [(0, .ref (pl 203)), (1, .int (iI x)), (2, .int (iI m)), (3, .int (iI i)), (4, .int (iI v_5))] [.ref (pl 203)] _ _ _ _
              refine pm_i_get pm_a135_131 rfl (cg_203 hW h203) rfl ?_
              show pm_E _ _ _ 134 [(0, .ref (pl 203)), (1, .int (iI x)), (2, .int (iI m)), (3, .int (iI i)), (4, .int (iI v_5))] [.ref (pl (60 + 2 * 4))] _ _ _ _
              refine pm_e_sim pm_a135_134 rfl ?_
              show pm_E _ _ _ 135 [(0, .ref (pl 203)), (1, .int (iI x)), (2, .int (iI m)), (3, .int (iI i)), (4, .int (iI v_5))] [.ref (pl 203), .ref (pl (60 + 2 * 4))] _ _ _ _
              refine pm_i_get pm_a135_135 rfl (cg_203 hW h203) rfl ?_
              show pm_E _ _ _ 138 [(0, .ref (pl 203)), (1, .int (iI x)), (2, .int (iI m)), (3, .int (iI i)), (4, .int (iI v_5))] [.ref (pl 208), .ref (pl (60 + 2 * 4))] _ _ _ _
              refine pm_e_sim pm_a135_138 rfl ?_
              show pm_E _ _ _ 140 [(0, .ref (pl 203)), (1, .int (iI x)), (2, .int (iI m)), (3, .int (iI i)), (4, .int (iI v_5))] [.int (iI v_5), .ref (pl 208), .ref (pl (60 + 2 * 4))] _ _ _ _
              refine pm_e_call (T2 := pm_mm123) pm_a135_140 rfl rfl rfl rfl rfl rfl rfl rfl rfl ?_
              show pm_E none _ _ 0 [(0, .ref (pl 208)), (1, .int (iI v_5))] [] _ _ _ _
              refine C_yat_208 hW h203 ⟨by omega, by omega⟩ (fun v_14 b_14 => ?_)
              obtain ⟨_, _⟩ := b_14
              show pm_E _ _ _ 143 [(0, .ref (pl 203)), (1, .int (iI x)), (2, .int (iI m)), (3, .int (iI i)), (4, .int (iI v_5))] [.int (iI v_14), .ref (pl (60 + 2 * 4))] _ _ _ _
              refine pm_i_callv (k := (pl (60 + 2 * 4))) (T2 := pm_mm40) pm_a135_143 rfl rfl rfl (cg_o (cj4 hW h203)) ⟨Nat.le_of_ble_eq_true rfl, Nat.le_of_ble_eq_true rfl, rfl, by decide +kernel⟩ ?_
              show pm_E none _ _ 0 [(0, .ref (pl (60 + 2 * 4))), (1, .int (iI v_14))] [] _ _ _ _
              have f_15 := (tyF_t f_5 g_5)
              obtain ⟨l_15, m_15⟩ := okx_md f_15.2.2.2.1
              refine C_put hW (cj4 hW h203) m_15 ⟨by omega, by omega⟩ (fun y_15 g_15 => ?_)
              obtain ⟨_, _, _, _⟩ := id g_15.1
              show pm_E _ _ _ 146 [(0, .ref (pl 203)), (1, .int (iI x)), (2, .int (iI m)), (3, .int (iI i)), (4, .int (iI v_5))] [] _ _ _ _
              refine pm_e_inc (y := iI (i + 1)) pm_a135_146 rfl (iI_add _ _) (by decide +kernel) rfl ?_
              show pm_E _ _ _ 149 [(0, .ref (pl 203)), (1, .int (iI x)), (2, .int (iI m)), (3, .int (iI (i + 1))), (4, .int (iI v_5))] [] _ _ _ _
              refine pm_e_goto pm_a135_149 rfl ?_
              show pm_E _ _ _ 25 [(0, .ref (pl 203)), (1, .int (iI x)), (2, .int (iI m)), (3, .int (iI (i + 1))), (4, .int (iI v_5))] [] _ _ _ _
              show pm_E _ _ _ 25 ([(0, .ref (pl 203)), (1, .int (iI x)), (2, .int (iI m)), (3, .int (iI (i + 1)))] ++ [(4, .int (iI v_5))]) [] _ _ _ _
              refine pm_e_more [(4, .int (iI v_5))] (show ([0, 1, 2, 3, 4] : List Nat).Nodup from by decide) ?_
              have f_16 := (tyF_c4 f_15 g_15.1)
              exact ih m (i + 1) _ _ _ (by omega) (by omega) (by omega) f_16.2.2.2 (fun s2 a2 c2 f2 => k s2 a2 c2 (tyF_t f_16 f2)) (by omega)
            · skip
              show pm_E _ _ _ 117 [(0, .ref (pl 203)), (1, .int (iI x)), (2, .int (iI m)), (3, .int (iI i)), (4, .int (iI v_5))] [] _ _ _ _
              refine pm_e_inc (y := iI (m + 1)) pm_a135_117 rfl (iI_add _ _) (by decide +kernel) rfl ?_
              show pm_E _ _ _ 120 [(0, .ref (pl 203)), (1, .int (iI x)), (2, .int (iI (m + 1))), (3, .int (iI i)), (4, .int (iI v_5))] [] _ _ _ _
              refine pm_e_sim pm_a135_120 rfl ?_
              show pm_E _ _ _ 121 [(0, .ref (pl 203)), (1, .int (iI x)), (2, .int (iI (m + 1))), (3, .int (iI i)), (4, .int (iI v_5))] [.ref (pl 203)] _ _ _ _
              refine pm_i_get pm_a135_121 rfl (cg_203 hW h203) rfl ?_
              show pm_E _ _ _ 124 [(0, .ref (pl 203)), (1, .int (iI x)), (2, .int (iI (m + 1))), (3, .int (iI i)), (4, .int (iI v_5))] [.ref (pl 208)] _ _ _ _
              refine pm_e_sim pm_a135_124 rfl ?_
              show pm_E _ _ _ 126 [(0, .ref (pl 203)), (1, .int (iI x)), (2, .int (iI (m + 1))), (3, .int (iI i)), (4, .int (iI v_5))] [.int (iI v_5), .ref (pl 208)] _ _ _ _
              refine pm_e_sim pm_a135_126 rfl ?_
              show pm_E _ _ _ 127 [(0, .ref (pl 203)), (1, .int (iI x)), (2, .int (iI (m + 1))), (3, .int (iI i)), (4, .int (iI v_5))] [.int (iI (m + 1)), .int (iI v_5), .ref (pl 208)] _ _ _ _
              refine pm_e_call (T2 := pm_mm114) pm_a135_127 rfl rfl rfl rfl rfl rfl rfl rfl rfl ?_
              show pm_E none _ _ 0 [(0, .ref (pl 208)), (1, .int (iI v_5)), (2, .int (iI (m + 1)))] [] _ _ _ _
              have f_17 := (tyF_t f_5 g_5)
              refine C_yset_208 hW h203 ⟨by omega, by omega⟩ (fun a_17 g_17 => ?_)
              show pm_E _ _ _ 130 [(0, .ref (pl 203)), (1, .int (iI x)), (2, .int (iI (m + 1))), (3, .int (iI i)), (4, .int (iI v_5))] [] _ _ _ _
              refine pm_e_sim pm_a135_130 rfl ?_
              show pm_E _ _ _ 131 [(0, .ref (pl 203)), (1, .int (iI x)), (2, .int (iI (m + 1))), (3, .int (iI i)), (4, .int (iI v_5))] [.ref (pl 203)] _ _ _ _
              refine pm_i_get pm_a135_131 rfl (cg_203 hW h203) rfl ?_
              show pm_E _ _ _ 134 [(0, .ref (pl 203)), (1, .int (iI x)), (2, .int (iI (m + 1))), (3, .int (iI i)), (4, .int (iI v_5))] [.ref (pl (60 + 2 * 4))] _ _ _ _
              refine pm_e_sim pm_a135_134 rfl ?_
              show pm_E _ _ _ 135 [(0, .ref (pl 203)), (1, .int (iI x)), (2, .int (iI (m + 1))), (3, .int (iI i)), (4, .int (iI v_5))] [.ref (pl 203), .ref (pl (60 + 2 * 4))] _ _ _ _
              refine pm_i_get pm_a135_135 rfl (cg_203 hW h203) rfl ?_
              show pm_E _ _ _ 138 [(0, .ref (pl 203)), (1, .int (iI x)), (2, .int (iI (m + 1))), (3, .int (iI i)), (4, .int (iI v_5))] [.ref (pl 208), .ref (pl (60 + 2 * 4))] _ _ _ _
              refine pm_e_sim pm_a135_138 rfl ?_
              show pm_E _ _ _ 140 [(0, .ref (pl 203)), (1, .int (iI x)), (2, .int (iI (m + 1))), (3, .int (iI i)), (4, .int (iI v_5))] [.int (iI v_5), .ref (pl 208), .ref (pl (60 + 2 * 4))] _ _ _ _
              refine pm_e_call (T2 := pm_mm123) pm_a135_140 rfl rfl rfl rfl rfl rfl rfl rfl rfl ?_
              show pm_E none _ _ 0 [(0, .ref (pl 208)), (1, .int (iI v_5))] [] _ _ _ _
              refine C_yat_208 hW h203 ⟨by omega, by omega⟩ (fun v_18 b_18 => ?_)
              obtain ⟨_, _⟩ := b_18
              show pm_E _ _ _ 143 [(0, .ref (pl 203)), (1, .int (iI x)), (2, .int (iI (m + 1))), (3, .int (iI i)), (4, .int (iI v_5))] [.int (iI v_18), .ref (pl (60 + 2 * 4))] _ _ _ _
              refine pm_i_callv (k := (pl (60 + 2 * 4))) (T2 := pm_mm40) pm_a135_143 rfl rfl rfl (cg_o (cj4 hW h203)) ⟨Nat.le_of_ble_eq_true rfl, Nat.le_of_ble_eq_true rfl, rfl, by decide +kernel⟩ ?_
              show pm_E none _ _ 0 [(0, .ref (pl (60 + 2 * 4))), (1, .int (iI v_18))] [] _ _ _ _
              have f_19 := (tyF_a f_17 g_17)
              obtain ⟨l_19, m_19⟩ := okx_md f_19.2.2.2.1
              refine C_put hW (cj4 hW h203) m_19 ⟨by omega, by omega⟩ (fun y_19 g_19 => ?_)
              obtain ⟨_, _, _, _⟩ := id g_19.1
              show pm_E _ _ _ 146 [(0, .ref (pl 203)), (1, .int (iI x)), (2, .int (iI (m + 1))), (3, .int (iI i)), (4, .int (iI v_5))] [] _ _ _ _
              refine pm_e_inc (y := iI (i + 1)) pm_a135_146 rfl (iI_add _ _) (by decide +kernel) rfl ?_
              show pm_E _ _ _ 149 [(0, .ref (pl 203)), (1, .int (iI x)), (2, .int (iI (m + 1))), (3, .int (iI (i + 1))), (4, .int (iI v_5))] [] _ _ _ _
              refine pm_e_goto pm_a135_149 rfl ?_
              show pm_E _ _ _ 25 [(0, .ref (pl 203)), (1, .int (iI x)), (2, .int (iI (m + 1))), (3, .int (iI (i + 1))), (4, .int (iI v_5))] [] _ _ _ _
              show pm_E _ _ _ 25 ([(0, .ref (pl 203)), (1, .int (iI x)), (2, .int (iI (m + 1))), (3, .int (iI (i + 1)))] ++ [(4, .int (iI v_5))]) [] _ _ _ _
              refine pm_e_more [(4, .int (iI v_5))] (show ([0, 1, 2, 3, 4] : List Nat).Nodup from by decide) ?_
              have f_20 := (tyF_c4 f_19 g_19.1)
              exact ih (m + 1) (i + 1) _ _ _ (by omega) (by omega) (by omega) f_20.2.2.2 (fun s2 a2 c2 f2 => k s2 a2 c2 (tyF_t f_20 f2)) (by omega)
set_option maxHeartbeats 4000000 in
set_option maxRecDepth 100000 in
theorem C_y_tellType {d n : Nat} {kd pl : Nat → Nat} {s : Nat → Int} {a : Nat → Int → Int} {c : Nat → cdt} {M : List va_E} {Q : Option Value → List va_E → Nat → Nat → Prop} {x : Int} (hW : wf n kd pl) (h203 : al n kd pl 203) (ho : tyO s c) (hx : in32 x) (k : ∀ s' a' c', tyF s a c s' a' c' → Q none (ch n kd pl s' a' c' M) 0 0) : pm_E none (d + 3) pm_mm135 0 [(0, .ref (pl 203)), (1, .int (iI x))] [] (ch n kd pl s a c M) 0 0 Q := by
  obtain ⟨⟨_, _, _, _⟩, ⟨_, _, _, _⟩, ⟨_, _⟩, ⟨_, _⟩, ⟨_, _⟩⟩ := id ho
  have rb4 := rm_b 4
  have rb5 := rm_b 5
  obtain ⟨_, _⟩ := id hx
  refine pm_e_sim pm_a135_0 rfl ?_
  show pm_E _ _ _ 1 [(0, .ref (pl 203)), (1, .int (iI x))] [.ref (pl 203)] _ _ _ _
  refine pm_i_callv (k := (pl 203)) (T2 := pm_mm132) pm_a135_1 rfl rfl rfl (cg_203 hW h203) ⟨Nat.le_of_ble_eq_true rfl, Nat.le_of_ble_eq_true rfl, rfl, by decide +kernel⟩ ?_
  show pm_E none _ _ 0 [(0, .ref (pl 203))] [] _ _ _ _
  have f_1 := (tyF_r (a := a) ho)
  refine C_y_clearMarks hW h203 f_1.2.2.2  (fun s_1 a_1 c_1  g_1  => ?_)
  have e_1 := g_1.2.2.2
  obtain ⟨⟨_, _, _, _⟩, ⟨_, _, _, _⟩, ⟨_, _⟩, ⟨_, _⟩, ⟨_, _⟩⟩ := e_1
  show pm_E _ _ _ 4 [(0, .ref (pl 203)), (1, .int (iI x))] [] _ _ _ _
  refine pm_e_sim pm_a135_4 rfl ?_
  show pm_E _ _ _ 5 [(0, .ref (pl 203)), (1, .int (iI x))] [.ref (pl 203)] _ _ _ _
  refine pm_i_get pm_a135_5 rfl (cg_203 hW h203) rfl ?_
  show pm_E _ _ _ 8 [(0, .ref (pl 203)), (1, .int (iI x))] [.ref (pl (60 + 2 * 4))] _ _ _ _
  refine pm_i_callv (k := (pl (60 + 2 * 4))) (T2 := pm_mm13) pm_a135_8 rfl rfl rfl (cg_o (cj4 hW h203)) ⟨Nat.le_of_ble_eq_true rfl, Nat.le_of_ble_eq_true rfl, rfl, by decide +kernel⟩ ?_
  show pm_E none _ _ 0 [(0, .ref (pl (60 + 2 * 4)))] [] _ _ _ _
  have f_2 := (tyF_t f_1 g_1)
  refine C_clear hW (cj4 hW h203) f_2.2.2.2.1 (fun y_2 g_2 => ?_)
  obtain ⟨_, _, _, _⟩ := id g_2.1
  show pm_E _ _ _ 11 [(0, .ref (pl 203)), (1, .int (iI x))] [] _ _ _ _
  refine pm_e_sim pm_a135_11 rfl ?_
  show pm_E _ _ _ 12 [(0, .ref (pl 203)), (1, .int (iI x))] [.ref (pl 203)] _ _ _ _
  refine pm_e_sim pm_a135_12 rfl ?_
  refine pm_e_top (y := iI 0) (by decide +kernel) ?_
  show pm_E _ _ _ 13 [(0, .ref (pl 203)), (1, .int (iI x))] [.int (iI 0), .ref (pl 203)] _ _ _ _
  refine pm_i_put pm_a135_13 rfl (cg_203 hW h203) rfl (Nat.le_of_ble_eq_true rfl) (Or.inl rfl) (cw_21 hW h203 0) ?_
  show pm_E _ _ _ 16 [(0, .ref (pl 203)), (1, .int (iI x))] [] _ _ _ _
  refine pm_e_sim pm_a135_16 rfl ?_
  show pm_E _ _ _ 17 [(0, .ref (pl 203)), (1, .int (iI x))] [.ref (pl 203)] _ _ _ _
  refine pm_e_sim pm_a135_17 rfl ?_
  show pm_E _ _ _ 18 [(0, .ref (pl 203)), (1, .int (iI x))] [.int (iI x), .ref (pl 203)] _ _ _ _
  refine pm_i_callv (k := (pl 203)) (T2 := pm_mm115) pm_a135_18 rfl rfl rfl (cg_203 hW h203) ⟨Nat.le_of_ble_eq_true rfl, Nat.le_of_ble_eq_true rfl, rfl, by decide +kernel⟩ ?_
  show pm_E none _ _ 0 [(0, .ref (pl 203)), (1, .int (iI x))] [] _ _ _ _
  have f_3 := (tyF_p21 (v := 0) (tyF_c4 f_2 g_2.1) ⟨by omega, by omega⟩)
  refine C_y_await hW h203 f_3.2.2.2 ⟨by omega, by omega⟩ (fun s_3 a_3 c_3  g_3  => ?_)
  have e_3 := g_3.2.2.2
  obtain ⟨⟨_, _, _, _⟩, ⟨_, _, _, _⟩, ⟨_, _⟩, ⟨_, _⟩, ⟨_, _⟩⟩ := e_3
  show pm_E _ _ _ 21 [(0, .ref (pl 203)), (1, .int (iI x))] [] _ _ _ _
  refine pm_e_sim pm_a135_21 rfl ?_
  refine pm_e_top (y := iI 0) (by decide +kernel) ?_
  show pm_E _ _ _ 22 [(0, .ref (pl 203)), (1, .int (iI x))] [.int (iI 0)] _ _ _ _
  refine pm_e_sim pm_a135_22 rfl ?_
  show pm_E _ _ _ 23 [(0, .ref (pl 203)), (1, .int (iI x)), (2, .int (iI 0))] [] _ _ _ _
  refine pm_e_sim pm_a135_23 rfl ?_
  refine pm_e_top (y := iI 0) (by decide +kernel) ?_
  show pm_E _ _ _ 24 [(0, .ref (pl 203)), (1, .int (iI x)), (2, .int (iI 0))] [.int (iI 0)] _ _ _ _
  refine pm_e_sim pm_a135_24 rfl ?_
  show pm_E _ _ _ 25 [(0, .ref (pl 203)), (1, .int (iI x)), (2, .int (iI 0)), (3, .int (iI 0))] [] _ _ _ _
  have f_4 := (tyF_t f_3 g_3)
  exact C_y_tell_l hW h203 502 0 0 _ _ _ (by omega) (by omega) (by omega) f_4.2.2.2 (fun s2 a2 c2 f2 => k s2 a2 c2 (tyF_t f_4 f2)) (by omega)
set_option maxHeartbeats 4000000 in
set_option maxRecDepth 100000 in
theorem C_y_len_l {d n : Nat} {kd pl : Nat → Nat} {M : List va_E} {Q : Option Value → List va_E → Nat → Nat → Prop} {j : Nat} {y : cdt} {x : Int} (hW : wf n kd pl) (h203 : al n kd pl 203) (hj : j < 38 ∧ al n kd pl (60 + 2 * j)) (hj4 : j ≠ 4) (hj5 : j ≠ 5) (hok : okx (rm j) y) (hx : in32 x) : ∀ (f : Nat) (i : Int) (s : Nat → Int) (a : Nat → Int → Int) (c : Nat → cdt), 0 ≤ i → i ≤ y.1 → c j = y → tyO s c → (∀ s' a' c' r, tyF s a c s' a' c' → in32 r → Q (some (.int (iI r))) (ch n kd pl s' a' c' M) 0 0) → y.1 - i < (f : Int) → pm_E none (d + 5) pm_mm111 43 [(0, .ref (pl 203)), (1, .ref (pl (60 + 2 * j))), (2, .int (iI x)), (3, .int (iI i))] [] (ch n kd pl s a c M) 0 0 Q := by
  intro f
  induction f with
  | zero =>
    intro i s a c hi0 hi1 hcj ho k hf
    exfalso; omega
  | succ f ih =>
    intro i s a c hi0 hi1 hcj ho k hf
    obtain ⟨⟨_, _, _, _⟩, ⟨_, _, _, _⟩, ⟨_, _⟩, ⟨_, _⟩, ⟨_, _⟩⟩ := id ho
    have rb4 := rm_b 4
    have rb5 := rm_b 5
    have rbj := rm_b j
    obtain ⟨_, _, _, _⟩ := id hok
    obtain ⟨_, _⟩ := id hx
    have hyj : (c j).1 = y.1 := by rw [hcj]
    refine pm_e_sim pm_a111_43 rfl ?_
    show pm_E _ _ _ 44 [(0, .ref (pl 203)), (1, .ref (pl (60 + 2 * j))), (2, .int (iI x)), (3, .int (iI i))] [.int (iI i)] _ _ _ _
    refine pm_e_sim pm_a111_44 rfl ?_
    show pm_E _ _ _ 45 [(0, .ref (pl 203)), (1, .ref (pl (60 + 2 * j))), (2, .int (iI x)), (3, .int (iI i))] [.ref (pl (60 + 2 * j)), .int (iI i)] _ _ _ _
    refine pm_i_get pm_a111_45 rfl (cg_o hj) rfl ?_
    show pm_E _ _ _ 48 [(0, .ref (pl 203)), (1, .ref (pl (60 + 2 * j))), (2, .int (iI x)), (3, .int (iI i))] [.int (iI ((c j).1)), .int (iI i)] _ _ _ _
    refine pm_c_ge (t := 71) pm_a111_48 rfl ⟨by omega, by omega⟩ ⟨by omega, by omega⟩ (fun h_1 => ?_) (fun h_1 => ?_)
    · skip
      show pm_E _ _ _ 71 [(0, .ref (pl 203)), (1, .ref (pl (60 + 2 * j))), (2, .int (iI x)), (3, .int (iI i))] [] _ _ _ _
      refine pm_e_sim pm_a111_71 rfl ?_
      show pm_E _ _ _ 72 [(0, .ref (pl 203)), (1, .ref (pl (60 + 2 * j))), (2, .int (iI x)), (3, .int (iI i))] [.ref (pl 203)] _ _ _ _
      refine pm_i_callv (k := (pl 203)) (T2 := pm_mm130) pm_a111_72 rfl rfl rfl (cg_203 hW h203) ⟨Nat.le_of_ble_eq_true rfl, Nat.le_of_ble_eq_true rfl, rfl, by decide +kernel⟩ ?_
      show pm_E none _ _ 0 [(0, .ref (pl 203))] [] _ _ _ _
      have f_2 := (tyF_r (a := a) ho)
      refine C_y_hasCircle hW h203 f_2.2.2.2  (fun s_2 a_2 c_2 v_2 g_2 b_2 => ?_)
      have e_2 := g_2.2.2.2
      obtain ⟨⟨_, _, _, _⟩, ⟨_, _, _, _⟩, ⟨_, _⟩, ⟨_, _⟩, ⟨_, _⟩⟩ := e_2
      obtain ⟨_, _⟩ := b_2
      show pm_E _ _ _ 75 [(0, .ref (pl 203)), (1, .ref (pl (60 + 2 * j))), (2, .int (iI x)), (3, .int (iI i))] [.int (iI v_2)] _ _ _ _
      refine pm_i_eq (t := 81) pm_a111_75 rfl ⟨by omega, by omega⟩ (fun h_3 => ?_) (fun h_3 => ?_)
      · skip
        show pm_E _ _ _ 81 [(0, .ref (pl 203)), (1, .ref (pl (60 + 2 * j))), (2, .int (iI x)), (3, .int (iI i))] [] _ _ _ _
        refine pm_e_sim pm_a111_81 rfl ?_
        show pm_E _ _ _ 82 [(0, .ref (pl 203)), (1, .ref (pl (60 + 2 * j))), (2, .int (iI x)), (3, .int (iI i))] [.ref (pl 203)] _ _ _ _
        refine pm_e_sim pm_a111_82 rfl ?_
        show pm_E _ _ _ 83 [(0, .ref (pl 203)), (1, .ref (pl (60 + 2 * j))), (2, .int (iI x)), (3, .int (iI i))] [.int (iI x), .ref (pl 203)] _ _ _ _
        refine pm_i_callv (k := (pl 203)) (T2 := pm_mm135) pm_a111_83 rfl rfl rfl (cg_203 hW h203) ⟨Nat.le_of_ble_eq_true rfl, Nat.le_of_ble_eq_true rfl, rfl, by decide +kernel⟩ ?_
        show pm_E none _ _ 0 [(0, .ref (pl 203)), (1, .int (iI x))] [] _ _ _ _
        have f_4 := (tyF_t f_2 g_2)
        refine C_y_tellType hW h203 f_4.2.2.2 ⟨by omega, by omega⟩ (fun s_4 a_4 c_4  g_4  => ?_)
        have e_4 := g_4.2.2.2
        obtain ⟨⟨_, _, _, _⟩, ⟨_, _, _, _⟩, ⟨_, _⟩, ⟨_, _⟩, ⟨_, _⟩⟩ := e_4
        show pm_E _ _ _ 86 [(0, .ref (pl 203)), (1, .ref (pl (60 + 2 * j))), (2, .int (iI x)), (3, .int (iI i))] [] _ _ _ _
        refine pm_e_sim pm_a111_86 rfl ?_
        show pm_E _ _ _ 87 [(0, .ref (pl 203)), (1, .ref (pl (60 + 2 * j))), (2, .int (iI x)), (3, .int (iI i))] [.ref (pl 203)] _ _ _ _
        refine pm_i_get pm_a111_87 rfl (cg_203 hW h203) rfl ?_
        show pm_E _ _ _ 90 [(0, .ref (pl 203)), (1, .ref (pl (60 + 2 * j))), (2, .int (iI x)), (3, .int (iI i))] [.ref (pl (60 + 2 * 4))] _ _ _ _
        refine pm_i_get pm_a111_90 rfl (cg_o (cj4 hW h203)) rfl ?_
        show pm_E _ _ _ 93 [(0, .ref (pl 203)), (1, .ref (pl (60 + 2 * j))), (2, .int (iI x)), (3, .int (iI i))] [.int (iI ((c_4 4).2.1))] _ _ _ _
        refine pm_i_eq (t := 99) pm_a111_93 rfl ⟨by omega, by omega⟩ (fun h_5 => ?_) (fun h_5 => ?_)
        · skip
          show pm_E _ _ _ 99 [(0, .ref (pl 203)), (1, .ref (pl (60 + 2 * j))), (2, .int (iI x)), (3, .int (iI i))] [] _ _ _ _
          refine pm_e_sim pm_a111_99 rfl ?_
          show pm_E _ _ _ 100 [(0, .ref (pl 203)), (1, .ref (pl (60 + 2 * j))), (2, .int (iI x)), (3, .int (iI i))] [.ref (pl 203)] _ _ _ _
          refine pm_i_get pm_a111_100 rfl (cg_203 hW h203) rfl ?_
          show pm_E _ _ _ 103 [(0, .ref (pl 203)), (1, .ref (pl (60 + 2 * j))), (2, .int (iI x)), (3, .int (iI i))] [.ref (pl (60 + 2 * 5))] _ _ _ _
          refine pm_i_callv (k := (pl (60 + 2 * 5))) (T2 := pm_mm13) pm_a111_103 rfl rfl rfl (cg_o (cj5 hW h203)) ⟨Nat.le_of_ble_eq_true rfl, Nat.le_of_ble_eq_true rfl, rfl, by decide +kernel⟩ ?_
          show pm_E none _ _ 0 [(0, .ref (pl (60 + 2 * 5)))] [] _ _ _ _
          have f_6 := (tyF_t f_4 g_4)
          refine C_clear hW (cj5 hW h203) f_6.2.2.2.2.1 (fun y_6 g_6 => ?_)
          obtain ⟨_, _, _, _⟩ := id g_6.1
          show pm_E _ _ _ 106 [(0, .ref (pl 203)), (1, .ref (pl (60 + 2 * j))), (2, .int (iI x)), (3, .int (iI i))] [] _ _ _ _
          refine pm_e_sim pm_a111_106 rfl ?_
          show pm_E _ _ _ 107 [(0, .ref (pl 203)), (1, .ref (pl (60 + 2 * j))), (2, .int (iI x)), (3, .int (iI i))] [.ref (pl 203)] _ _ _ _
          refine pm_i_get pm_a111_107 rfl (cg_203 hW h203) rfl ?_
          show pm_E _ _ _ 110 [(0, .ref (pl 203)), (1, .ref (pl (60 + 2 * j))), (2, .int (iI x)), (3, .int (iI i))] [.ref (pl (60 + 2 * 5))] _ _ _ _
          refine pm_e_sim pm_a111_110 rfl ?_
          show pm_E _ _ _ 111 [(0, .ref (pl 203)), (1, .ref (pl (60 + 2 * j))), (2, .int (iI x)), (3, .int (iI i))] [.ref (pl 203), .ref (pl (60 + 2 * 5))] _ _ _ _
          refine pm_i_get pm_a111_111 rfl (cg_203 hW h203) rfl ?_
          show pm_E _ _ _ 114 [(0, .ref (pl 203)), (1, .ref (pl (60 + 2 * j))), (2, .int (iI x)), (3, .int (iI i))] [.ref (pl (60 + 2 * 4)), .ref (pl (60 + 2 * 5))] _ _ _ _
          refine pm_i_callv (k := (pl (60 + 2 * 5))) (T2 := pm_mm58) pm_a111_114 rfl rfl rfl (cg_o (cj5 hW h203)) ⟨Nat.le_of_ble_eq_true rfl, Nat.le_of_ble_eq_true rfl, rfl, by decide +kernel⟩ ?_
          show pm_E none _ _ 0 [(0, .ref (pl (60 + 2 * 5))), (1, .ref (pl (60 + 2 * 4)))] [] _ _ _ _
          have f_7 := (tyF_c5 f_6 g_6.1)
          obtain ⟨l_7, m_7⟩ := okx_md f_7.2.2.2.2.1
          refine C_putAll hW (cj5 hW h203) (cj4 hW h203) rfl f_7.2.2.2.1 m_7 (fun y_7 g_7 => ?_)
          obtain ⟨_, _, _, _⟩ := id g_7.1
          show pm_E _ _ _ 117 [(0, .ref (pl 203)), (1, .ref (pl (60 + 2 * j))), (2, .int (iI x)), (3, .int (iI i))] [] _ _ _ _
          refine pm_e_sim pm_a111_117 rfl ?_
          show pm_E _ _ _ 118 [(0, .ref (pl 203)), (1, .ref (pl (60 + 2 * j))), (2, .int (iI x)), (3, .int (iI i))] [.ref (pl 203)] _ _ _ _
          refine pm_i_get pm_a111_118 rfl (cg_203 hW h203) rfl ?_
          show pm_E _ _ _ 121 [(0, .ref (pl 203)), (1, .ref (pl (60 + 2 * j))), (2, .int (iI x)), (3, .int (iI i))] [.ref (pl (60 + 2 * 5))] _ _ _ _
          refine pm_i_get pm_a111_121 rfl (cg_o (cj5 hW h203)) rfl ?_
          refine pm_e_top (y := iI ((y_7).1)) (congrArg (fun z : cdt => iI z.1) updC_at) ?_
          show pm_E _ _ _ 124 [(0, .ref (pl 203)), (1, .ref (pl (60 + 2 * j))), (2, .int (iI x)), (3, .int (iI i))] [.int (iI ((y_7).1))] _ _ _ _
          refine pm_e_ret pm_a111_124 rfl rfl rfl rfl rfl rfl rfl rfl ?_
          exact k _ _ _ _ (tyF_c5 f_7 g_7.1) ⟨by omega, by omega⟩
        · skip
          show pm_E _ _ _ 96 [(0, .ref (pl 203)), (1, .ref (pl (60 + 2 * j))), (2, .int (iI x)), (3, .int (iI i))] [] _ _ _ _
          refine pm_e_sim pm_a111_96 rfl ?_
          refine pm_e_top (y := iI (-3)) (by decide +kernel) ?_
          show pm_E _ _ _ 98 [(0, .ref (pl 203)), (1, .ref (pl (60 + 2 * j))), (2, .int (iI x)), (3, .int (iI i))] [.int (iI (-3))] _ _ _ _
          refine pm_e_ret pm_a111_98 rfl rfl rfl rfl rfl rfl rfl rfl ?_
          exact k _ _ _ _ (tyF_t f_4 g_4) (by decide)
      · skip
        show pm_E _ _ _ 78 [(0, .ref (pl 203)), (1, .ref (pl (60 + 2 * j))), (2, .int (iI x)), (3, .int (iI i))] [] _ _ _ _
        refine pm_e_sim pm_a111_78 rfl ?_
        refine pm_e_top (y := iI (-4)) (by decide +kernel) ?_
        show pm_E _ _ _ 80 [(0, .ref (pl 203)), (1, .ref (pl (60 + 2 * j))), (2, .int (iI x)), (3, .int (iI i))] [.int (iI (-4))] _ _ _ _
        refine pm_e_ret pm_a111_80 rfl rfl rfl rfl rfl rfl rfl rfl ?_
        exact k _ _ _ _ (tyF_t f_2 g_2) (by decide)
    · skip
      show pm_E _ _ _ 51 [(0, .ref (pl 203)), (1, .ref (pl (60 + 2 * j))), (2, .int (iI x)), (3, .int (iI i))] [] _ _ _ _
      refine pm_e_sim pm_a111_51 rfl ?_
      show pm_E _ _ _ 52 [(0, .ref (pl 203)), (1, .ref (pl (60 + 2 * j))), (2, .int (iI x)), (3, .int (iI i))] [.ref (pl 203)] _ _ _ _
      refine pm_e_sim pm_a111_52 rfl ?_
      show pm_E _ _ _ 53 [(0, .ref (pl 203)), (1, .ref (pl (60 + 2 * j))), (2, .int (iI x)), (3, .int (iI i))] [.ref (pl (60 + 2 * j)), .ref (pl 203)] _ _ _ _
      refine pm_e_sim pm_a111_53 rfl ?_
      show pm_E _ _ _ 54 [(0, .ref (pl 203)), (1, .ref (pl (60 + 2 * j))), (2, .int (iI x)), (3, .int (iI i))] [.int (iI i), .ref (pl (60 + 2 * j)), .ref (pl 203)] _ _ _ _
      refine pm_i_callv (k := (pl (60 + 2 * j))) (T2 := pm_mm47) pm_a111_54 rfl rfl rfl (cg_o hj) ⟨Nat.le_of_ble_eq_true rfl, Nat.le_of_ble_eq_true rfl, rfl, by decide +kernel⟩ ?_
      show pm_E none _ _ 0 [(0, .ref (pl (60 + 2 * j))), (1, .int (iI i))] [] _ _ _ _
      refine C_at hW hj hcj hok.1 hok.2.1 ⟨by omega, by omega⟩ ?_
      obtain ⟨_, _⟩ := atI_in hok (i)
      show pm_E _ _ _ 57 [(0, .ref (pl 203)), (1, .ref (pl (60 + 2 * j))), (2, .int (iI x)), (3, .int (iI i))] [.int (iI (atI y i)), .ref (pl 203)] _ _ _ _
      refine pm_e_sim pm_a111_57 rfl ?_
      show pm_E _ _ _ 58 [(0, .ref (pl 203)), (1, .ref (pl (60 + 2 * j))), (2, .int (iI x)), (3, .int (iI i))] [.int (iI i), .int (iI (atI y i)), .ref (pl 203)] _ _ _ _
      refine pm_e_sim pm_a111_58 rfl ?_
      show pm_E _ _ _ 59 [(0, .ref (pl 203)), (1, .ref (pl (60 + 2 * j))), (2, .int (iI x)), (3, .int (iI i))] [.ref (pl 203), .int (iI i), .int (iI (atI y i)), .ref (pl 203)] _ _ _ _
      refine pm_i_callv (k := (pl 203)) (T2 := pm_mm116) pm_a111_59 rfl rfl rfl (cg_203 hW h203) ⟨Nat.le_of_ble_eq_true rfl, Nat.le_of_ble_eq_true rfl, rfl, by decide +kernel⟩ ?_
      show pm_E none _ _ 0 [(0, .ref (pl 203))] [] _ _ _ _
      have f_9 := (tyF_r (a := a) ho)
      refine C_y_nextWaiting hW h203 f_9.2.2.2  (fun s_9 a_9 c_9 v_9 g_9 b_9 => ?_)
      have e_9 := g_9.2.2.2
      obtain ⟨⟨_, _, _, _⟩, ⟨_, _, _, _⟩, ⟨_, _⟩, ⟨_, _⟩, ⟨_, _⟩⟩ := e_9
      obtain ⟨_, _⟩ := b_9
      show pm_E _ _ _ 62 [(0, .ref (pl 203)), (1, .ref (pl (60 + 2 * j))), (2, .int (iI x)), (3, .int (iI i))] [.int (iI v_9), .int (iI i), .int (iI (atI y i)), .ref (pl 203)] _ _ _ _
      refine pm_i_callv (k := (pl 203)) (T2 := pm_mm117) pm_a111_62 rfl rfl rfl (cg_203 hW h203) ⟨Nat.le_of_ble_eq_true rfl, Nat.le_of_ble_eq_true rfl, rfl, by decide +kernel⟩ ?_
      show pm_E none _ _ 0 [(0, .ref (pl 203)), (1, .int (iI (atI y i))), (2, .int (iI i)), (3, .int (iI v_9))] [] _ _ _ _
      have f_10 := (tyF_t f_9 g_9)
      refine C_y_typeNode hW h203 f_10.2.2.2 ⟨by omega, by omega⟩ ⟨by omega, by omega⟩ ⟨by omega, by omega⟩ (fun s_10 a_10 c_10  g_10  => ?_)
      have e_10 := g_10.2.2.2
      obtain ⟨⟨_, _, _, _⟩, ⟨_, _, _, _⟩, ⟨_, _⟩, ⟨_, _⟩, ⟨_, _⟩⟩ := e_10
      show pm_E _ _ _ 65 [(0, .ref (pl 203)), (1, .ref (pl (60 + 2 * j))), (2, .int (iI x)), (3, .int (iI i))] [] _ _ _ _
      refine pm_e_inc (y := iI (i + 1)) pm_a111_65 rfl (iI_add _ _) (by decide +kernel) rfl ?_
      show pm_E _ _ _ 68 [(0, .ref (pl 203)), (1, .ref (pl (60 + 2 * j))), (2, .int (iI x)), (3, .int (iI (i + 1)))] [] _ _ _ _
      refine pm_e_goto pm_a111_68 rfl ?_
      show pm_E _ _ _ 43 [(0, .ref (pl 203)), (1, .ref (pl (60 + 2 * j))), (2, .int (iI x)), (3, .int (iI (i + 1)))] [] _ _ _ _
      have f_11 := (tyF_t f_10 g_10)
      exact ih _ _ _ _ (by omega) (by omega) (by rw [f_11.2.2.1 j hj4 hj5]; exact hcj) f_11.2.2.2 (fun s2 a2 c2 r f2 b2 => k s2 a2 c2 r (tyF_t f_11 f2) b2) (by omega)
set_option maxHeartbeats 4000000 in
set_option maxRecDepth 100000 in
theorem C_y_lengthOfType {d n : Nat} {kd pl : Nat → Nat} {s : Nat → Int} {a : Nat → Int → Int} {c : Nat → cdt} {M : List va_E} {Q : Option Value → List va_E → Nat → Nat → Prop} {j : Nat} {ft : Nat} {k0 : Int} (hW : wf n kd pl) (h203 : al n kd pl 203) (hj : j < 38 ∧ al n kd pl (60 + 2 * j)) (hj4 : j ≠ 4) (hj5 : j ≠ 5) (hok : okx (rm j) (c j)) (hin : ∀ q, in32 (a 1 q)) (ht : tm (c j).2.2 ft k0 0 (c j).1) (ho : tyO s c) (k : ∀ a1 s' a' c' r, shM a a1 → tyF s a1 c s' a' c' → in32 r → Q (some (.int (iI r))) (ch n kd pl s' a' c' M) 0 0) : pm_E none (d + 5) pm_mm111 0 [(0, .ref (pl 203)), (1, .ref (pl (60 + 2 * j)))] [] (ch n kd pl s a c M) 0 0 Q := by
  obtain ⟨⟨_, _, _, _⟩, ⟨_, _, _, _⟩, ⟨_, _⟩, ⟨_, _⟩, ⟨_, _⟩⟩ := id ho
  have rb4 := rm_b 4
  have rb5 := rm_b 5
  have rbj := rm_b j
  obtain ⟨_, _, _, _⟩ := id hok
  refine pm_e_sim pm_a111_0 rfl ?_
  show pm_E _ _ _ 1 [(0, .ref (pl 203)), (1, .ref (pl (60 + 2 * j)))] [.ref (pl 203)] _ _ _ _
  refine pm_e_sim pm_a111_1 rfl ?_
  refine pm_e_top (y := iI 0) (by decide +kernel) ?_
  show pm_E _ _ _ 2 [(0, .ref (pl 203)), (1, .ref (pl (60 + 2 * j)))] [.int (iI 0), .ref (pl 203)] _ _ _ _
  refine pm_i_put pm_a111_2 rfl (cg_203 hW h203) rfl (Nat.le_of_ble_eq_true rfl) (Or.inl rfl) (cw_20 hW h203 0) ?_
  show pm_E _ _ _ 5 [(0, .ref (pl 203)), (1, .ref (pl (60 + 2 * j)))] [] _ _ _ _
  refine pm_e_sim pm_a111_5 rfl ?_
  show pm_E _ _ _ 6 [(0, .ref (pl 203)), (1, .ref (pl (60 + 2 * j)))] [.ref (pl 203)] _ _ _ _
  refine pm_e_sim pm_a111_6 rfl ?_
  refine pm_e_top (y := iI 0) (by decide +kernel) ?_
  show pm_E _ _ _ 7 [(0, .ref (pl 203)), (1, .ref (pl (60 + 2 * j)))] [.int (iI 0), .ref (pl 203)] _ _ _ _
  refine pm_i_put pm_a111_7 rfl (cg_203 hW h203) rfl (Nat.le_of_ble_eq_true rfl) (Or.inl rfl) (cw_21 hW h203 0) ?_
  show pm_E _ _ _ 10 [(0, .ref (pl 203)), (1, .ref (pl (60 + 2 * j)))] [] _ _ _ _
  refine pm_e_sim pm_a111_10 rfl ?_
  show pm_E _ _ _ 11 [(0, .ref (pl 203)), (1, .ref (pl (60 + 2 * j)))] [.ref (pl 203)] _ _ _ _
  refine pm_i_get pm_a111_11 rfl (cg_203 hW h203) rfl ?_
  show pm_E _ _ _ 14 [(0, .ref (pl 203)), (1, .ref (pl (60 + 2 * j)))] [.ref (pl 6)] _ _ _ _
  refine pm_e_sim pm_a111_14 rfl ?_
  show pm_E _ _ _ 15 [(0, .ref (pl 203)), (1, .ref (pl (60 + 2 * j)))] [.ref (pl (60 + 2 * j)), .ref (pl 6)] _ _ _ _
  refine pm_e_sim pm_a111_15 rfl ?_
  refine pm_e_top (y := iI 0) (by decide +kernel) ?_
  show pm_E _ _ _ 16 [(0, .ref (pl 203)), (1, .ref (pl (60 + 2 * j)))] [.int (iI 0), .ref (pl (60 + 2 * j)), .ref (pl 6)] _ _ _ _
  refine pm_e_sim pm_a111_16 rfl ?_
  show pm_E _ _ _ 17 [(0, .ref (pl 203)), (1, .ref (pl (60 + 2 * j)))] [.ref (pl (60 + 2 * j)), .int (iI 0), .ref (pl (60 + 2 * j)), .ref (pl 6)] _ _ _ _
  refine pm_i_get pm_a111_17 rfl (cg_o hj) rfl ?_
  show pm_E _ _ _ 20 [(0, .ref (pl 203)), (1, .ref (pl (60 + 2 * j)))] [.int (iI ((c j).1)), .int (iI 0), .ref (pl (60 + 2 * j)), .ref (pl 6)] _ _ _ _
  refine pm_i_callv (k := (pl 6)) (T2 := pm_mm70) pm_a111_20 rfl rfl rfl (cg_6 hW) ⟨Nat.le_of_ble_eq_true rfl, Nat.le_of_ble_eq_true rfl, rfl, by decide +kernel⟩ ?_
  show pm_E none _ _ 0 [(0, .ref (pl 6)), (1, .ref (pl (60 + 2 * j))), (2, .int (iI 0)), (3, .int (iI ((c j).1)))] [] _ _ _ _
  refine C_measure hW hj rfl hok hin (by omega) (by omega) ht (fun E D h1 h2 h3 => ?_)
  have hm := shM_m (a := a) (D := D) h3
  generalize updA (updA a 1 E) 2 D = a1 at hm ⊢
  show pm_E _ _ _ 23 [(0, .ref (pl 203)), (1, .ref (pl (60 + 2 * j)))] [] _ _ _ _
  refine pm_e_sim pm_a111_23 rfl ?_
  show pm_E _ _ _ 24 [(0, .ref (pl 203)), (1, .ref (pl (60 + 2 * j)))] [.ref (pl 203)] _ _ _ _
  refine pm_i_callv (k := (pl 203)) (T2 := pm_mm112) pm_a111_24 rfl rfl rfl (cg_203 hW h203) ⟨Nat.le_of_ble_eq_true rfl, Nat.le_of_ble_eq_true rfl, rfl, by decide +kernel⟩ ?_
  show pm_E none _ _ 0 [(0, .ref (pl 203))] [] _ _ _ _
  have f_1 := (tyF_p21 (v := 0) (tyF_p20 (v := 0) (tyF_r (a := a1) ho) ⟨by omega, by omega⟩) ⟨by omega, by omega⟩)
  refine C_y_any hW h203 f_1.2.2.2  (fun s_1 a_1 c_1 v_1 g_1 b_1 => ?_)
  have e_1 := g_1.2.2.2
  obtain ⟨⟨_, _, _, _⟩, ⟨_, _, _, _⟩, ⟨_, _⟩, ⟨_, _⟩, ⟨_, _⟩⟩ := e_1
  obtain ⟨_, _⟩ := b_1
  show pm_E _ _ _ 27 [(0, .ref (pl 203)), (1, .ref (pl (60 + 2 * j)))] [.int (iI v_1)] _ _ _ _
  refine pm_e_sim pm_a111_27 rfl ?_
  show pm_E _ _ _ 28 [(0, .ref (pl 203)), (1, .ref (pl (60 + 2 * j))), (2, .int (iI v_1))] [] _ _ _ _
  refine pm_e_sim pm_a111_28 rfl ?_
  show pm_E _ _ _ 29 [(0, .ref (pl 203)), (1, .ref (pl (60 + 2 * j))), (2, .int (iI v_1))] [.ref (pl 203)] _ _ _ _
  refine pm_e_sim pm_a111_29 rfl ?_
  show pm_E _ _ _ 30 [(0, .ref (pl 203)), (1, .ref (pl (60 + 2 * j))), (2, .int (iI v_1))] [.ref (pl 203), .ref (pl 203)] _ _ _ _
  refine pm_i_callv (k := (pl 203)) (T2 := pm_mm112) pm_a111_30 rfl rfl rfl (cg_203 hW h203) ⟨Nat.le_of_ble_eq_true rfl, Nat.le_of_ble_eq_true rfl, rfl, by decide +kernel⟩ ?_
  show pm_E none _ _ 0 [(0, .ref (pl 203))] [] _ _ _ _
  have f_2 := (tyF_t f_1 g_1)
  refine C_y_any hW h203 f_2.2.2.2  (fun s_2 a_2 c_2 v_2 g_2 b_2 => ?_)
  have e_2 := g_2.2.2.2
  obtain ⟨⟨_, _, _, _⟩, ⟨_, _, _, _⟩, ⟨_, _⟩, ⟨_, _⟩, ⟨_, _⟩⟩ := e_2
  obtain ⟨_, _⟩ := b_2
  show pm_E _ _ _ 33 [(0, .ref (pl 203)), (1, .ref (pl (60 + 2 * j))), (2, .int (iI v_1))] [.int (iI v_2), .ref (pl 203)] _ _ _ _
  refine pm_i_put pm_a111_33 rfl (cg_203 hW h203) rfl (Nat.le_of_ble_eq_true rfl) (Or.inl rfl) (cw_22 hW h203 v_2) ?_
  show pm_E _ _ _ 36 [(0, .ref (pl 203)), (1, .ref (pl (60 + 2 * j))), (2, .int (iI v_1))] [] _ _ _ _
  refine pm_e_sim pm_a111_36 rfl ?_
  show pm_E _ _ _ 37 [(0, .ref (pl 203)), (1, .ref (pl (60 + 2 * j))), (2, .int (iI v_1))] [.ref (pl 203)] _ _ _ _
  refine pm_e_sim pm_a111_37 rfl ?_
  show pm_E _ _ _ 38 [(0, .ref (pl 203)), (1, .ref (pl (60 + 2 * j))), (2, .int (iI v_1))] [.int (iI v_1), .ref (pl 203)] _ _ _ _
  refine pm_i_callv (k := (pl 203)) (T2 := pm_mm115) pm_a111_38 rfl rfl rfl (cg_203 hW h203) ⟨Nat.le_of_ble_eq_true rfl, Nat.le_of_ble_eq_true rfl, rfl, by decide +kernel⟩ ?_
  show pm_E none _ _ 0 [(0, .ref (pl 203)), (1, .int (iI v_1))] [] _ _ _ _
  have f_3 := (tyF_p22 (v := v_2) (tyF_t f_2 g_2) ⟨by omega, by omega⟩)
  refine C_y_await hW h203 f_3.2.2.2 ⟨by omega, by omega⟩ (fun s_3 a_3 c_3  g_3  => ?_)
  have e_3 := g_3.2.2.2
  obtain ⟨⟨_, _, _, _⟩, ⟨_, _, _, _⟩, ⟨_, _⟩, ⟨_, _⟩, ⟨_, _⟩⟩ := e_3
  show pm_E _ _ _ 41 [(0, .ref (pl 203)), (1, .ref (pl (60 + 2 * j))), (2, .int (iI v_1))] [] _ _ _ _
  refine pm_e_sim pm_a111_41 rfl ?_
  refine pm_e_top (y := iI 0) (by decide +kernel) ?_
  show pm_E _ _ _ 42 [(0, .ref (pl 203)), (1, .ref (pl (60 + 2 * j))), (2, .int (iI v_1))] [.int (iI 0)] _ _ _ _
  refine pm_e_sim pm_a111_42 rfl ?_
  show pm_E _ _ _ 43 [(0, .ref (pl 203)), (1, .ref (pl (60 + 2 * j))), (2, .int (iI v_1)), (3, .int (iI 0))] [] _ _ _ _
  have f_4 := (tyF_t f_3 g_3)
  exact C_y_len_l (x := v_1) hW h203 hj hj4 hj5 hok ⟨by omega, by omega⟩ ((c j).1.toNat + 1) 0 _ _ _ (by omega) (by omega) (by rw [f_4.2.2.1 j hj4 hj5]) f_4.2.2.2 (fun s2 a2 c2 r f2 b2 => k a1 s2 a2 c2 r hm (tyF_t f_4 f2) b2) (by omega)
