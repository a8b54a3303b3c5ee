/-! THE CLASS: Typer: joins, circles, telling -/
set_option maxHeartbeats 4000000 in
set_option maxRecDepth 100000 in
theorem C_y_root_l {d n : Nat} {kd pl : Nat → Nat} {M : List va_E} {Q : Option Value → List va_E → Nat → Nat → Prop} {x : Int} (hW : wf n kd pl) (h203 : al n kd pl 203) : ∀ (f : Nat) (r i : Int) (s : Nat → Int) (a : Nat → Int → Int) (c : Nat → cdt), in32 r → 0 ≤ i → i ≤ 2800 → tyO s c → (∀ s' a' c' r, tyF s a c s' a' c' → in32 r → Q (some (.int (iI r))) (ch n kd pl s' a' c' M) 0 0) → 2800 - i < (f : Int) → pm_E none (d + 1) pm_mm122 4 [(0, .ref (pl 203)), (1, .int (iI x)), (2, .int (iI r)), (3, .int (iI i))] [] (ch n kd pl s a c M) 0 0 Q := by
  intro f
  induction f with
  | zero =>
    intro r i s a c hr_ hi0 hi1 ho k hf
    exfalso; omega
  | succ f ih =>
    intro r i s a c hr_ hi0 hi1 ho k hf
    obtain ⟨⟨_, _, _, _⟩, ⟨_, _, _, _⟩, ⟨_, _⟩, ⟨_, _⟩, ⟨_, _⟩⟩ := id ho
    have rb4 := rm_b 4
    have rb5 := rm_b 5
    obtain ⟨_, _⟩ := id hr_
    refine pm_e_sim pm_a122_4 rfl ?_
    show pm_E _ _ _ 5 [(0, .ref (pl 203)), (1, .int (iI x)), (2, .int (iI r)), (3, .int (iI i))] [.int (iI i)] _ _ _ _
    refine pm_e_sim pm_a122_5 rfl ?_
    refine pm_e_top (y := iI 2800) (by decide +kernel) ?_
    show pm_E _ _ _ 8 [(0, .ref (pl 203)), (1, .int (iI x)), (2, .int (iI r)), (3, .int (iI i))] [.int (iI 2800), .int (iI i)] _ _ _ _
    refine pm_c_ge (t := 61) pm_a122_8 rfl ⟨by omega, by omega⟩ ⟨by omega, by omega⟩ (fun h_1 => ?_) (fun h_1 => ?_)
    · skip
      show pm_E _ _ _ 61 [(0, .ref (pl 203)), (1, .int (iI x)), (2, .int (iI r)), (3, .int (iI i))] [] _ _ _ _
      refine pm_e_sim pm_a122_61 rfl ?_
      show pm_E _ _ _ 62 [(0, .ref (pl 203)), (1, .int (iI x)), (2, .int (iI r)), (3, .int (iI i))] [.int (iI r)] _ _ _ _
      refine pm_e_ret pm_a122_62 rfl rfl rfl rfl rfl rfl rfl rfl ?_
      exact k _ _ _ _ (tyF_r (a := a) ho) ⟨by omega, by omega⟩
    · skip
      show pm_E _ _ _ 11 [(0, .ref (pl 203)), (1, .int (iI x)), (2, .int (iI r)), (3, .int (iI i))] [] _ _ _ _
      refine pm_e_sim pm_a122_11 rfl ?_
      show pm_E _ _ _ 12 [(0, .ref (pl 203)), (1, .int (iI x)), (2, .int (iI r)), (3, .int (iI i))] [.ref (pl 203)] _ _ _ _
      refine pm_i_get pm_a122_12 rfl (cg_203 hW h203) rfl ?_
      show pm_E _ _ _ 15 [(0, .ref (pl 203)), (1, .int (iI x)), (2, .int (iI r)), (3, .int (iI i))] [.ref (pl 206)] _ _ _ _
      refine pm_e_sim pm_a122_15 rfl ?_
      show pm_E _ _ _ 16 [(0, .ref (pl 203)), (1, .int (iI x)), (2, .int (iI r)), (3, .int (iI i))] [.int (iI r), .ref (pl 206)] _ _ _ _
      refine pm_e_call (T2 := pm_mm123) pm_a122_16 rfl rfl rfl rfl rfl rfl rfl rfl rfl ?_
      show pm_E none _ _ 0 [(0, .ref (pl 206)), (1, .int (iI r))] [] _ _ _ _
      refine C_yat_206 hW h203 ⟨by omega, by omega⟩ (fun v_2 b_2 => ?_)
      obtain ⟨_, _⟩ := b_2
      show pm_E _ _ _ 19 [(0, .ref (pl 203)), (1, .int (iI x)), (2, .int (iI r)), (3, .int (iI i))] [.int (iI v_2)] _ _ _ _
      refine pm_e_sim pm_a122_19 rfl ?_
      show pm_E _ _ _ 20 [(0, .ref (pl 203)), (1, .int (iI x)), (2, .int (iI r)), (3, .int (iI i))] [.int (iI r), .int (iI v_2)] _ _ _ _
      refine pm_c_eq (t := 61) pm_a122_20 rfl ⟨by omega, by omega⟩ ⟨by omega, by omega⟩ (fun h_3 => ?_) (fun h_3 => ?_)
      · skip
        show pm_E _ _ _ 61 [(0, .ref (pl 203)), (1, .int (iI x)), (2, .int (iI r)), (3, .int (iI i))] [] _ _ _ _
        refine pm_e_sim pm_a122_61 rfl ?_
        show pm_E _ _ _ 62 [(0, .ref (pl 203)), (1, .int (iI x)), (2, .int (iI r)), (3, .int (iI i))] [.int (iI r)] _ _ _ _
        refine pm_e_ret pm_a122_62 rfl rfl rfl rfl rfl rfl rfl rfl ?_
        exact k _ _ _ _ (tyF_r (a := a) ho) ⟨by omega, by omega⟩
      · skip
        show pm_E _ _ _ 23 [(0, .ref (pl 203)), (1, .int (iI x)), (2, .int (iI r)), (3, .int (iI i))] [] _ _ _ _
        refine pm_e_sim pm_a122_23 rfl ?_
        show pm_E _ _ _ 24 [(0, .ref (pl 203)), (1, .int (iI x)), (2, .int (iI r)), (3, .int (iI i))] [.ref (pl 203)] _ _ _ _
        refine pm_i_get pm_a122_24 rfl (cg_203 hW h203) rfl ?_
        show pm_E _ _ _ 27 [(0, .ref (pl 203)), (1, .int (iI x)), (2, .int (iI r)), (3, .int (iI i))] [.ref (pl 206)] _ _ _ _
        refine pm_e_sim pm_a122_27 rfl ?_
        show pm_E _ _ _ 28 [(0, .ref (pl 203)), (1, .int (iI x)), (2, .int (iI r)), (3, .int (iI i))] [.int (iI r), .ref (pl 206)] _ _ _ _
        refine pm_e_sim pm_a122_28 rfl ?_
        show pm_E _ _ _ 29 [(0, .ref (pl 203)), (1, .int (iI x)), (2, .int (iI r)), (3, .int (iI i))] [.ref (pl 203), .int (iI r), .ref (pl 206)] _ _ _ _
        refine pm_i_get pm_a122_29 rfl (cg_203 hW h203) rfl ?_
        show pm_E _ _ _ 32 [(0, .ref (pl 203)), (1, .int (iI x)), (2, .int (iI r)), (3, .int (iI i))] [.ref (pl 206), .int (iI r), .ref (pl 206)] _ _ _ _
        refine pm_e_sim pm_a122_32 rfl ?_
        show pm_E _ _ _ 33 [(0, .ref (pl 203)), (1, .int (iI x)), (2, .int (iI r)), (3, .int (iI i))] [.ref (pl 203), .ref (pl 206), .int (iI r), .ref (pl 206)] _ _ _ _
        refine pm_i_get pm_a122_33 rfl (cg_203 hW h203) rfl ?_
        show pm_E _ _ _ 36 [(0, .ref (pl 203)), (1, .int (iI x)), (2, .int (iI r)), (3, .int (iI i))] [.ref (pl 206), .ref (pl 206), .int (iI r), .ref (pl 206)] _ _ _ _
        refine pm_e_sim pm_a122_36 rfl ?_
        show pm_E _ _ _ 37 [(0, .ref (pl 203)), (1, .int (iI x)), (2, .int (iI r)), (3, .int (iI i))] [.int (iI r), .ref (pl 206), .ref (pl 206), .int (iI r), .ref (pl 206)] _ _ _ _
        refine pm_e_call (T2 := pm_mm123) pm_a122_37 rfl rfl rfl rfl rfl rfl rfl rfl rfl ?_
        show pm_E none _ _ 0 [(0, .ref (pl 206)), (1, .int (iI r))] [] _ _ _ _
        refine C_yat_206 hW h203 ⟨by omega, by omega⟩ (fun v_4 b_4 => ?_)
        obtain ⟨_, _⟩ := b_4
        show pm_E _ _ _ 40 [(0, .ref (pl 203)), (1, .int (iI x)), (2, .int (iI r)), (3, .int (iI i))] [.int (iI v_4), .ref (pl 206), .int (iI r), .ref (pl 206)] _ _ _ _
        refine pm_e_call (T2 := pm_mm123) pm_a122_40 rfl rfl rfl rfl rfl rfl rfl rfl rfl ?_
        show pm_E none _ _ 0 [(0, .ref (pl 206)), (1, .int (iI v_4))] [] _ _ _ _
        refine C_yat_206 hW h203 ⟨by omega, by omega⟩ (fun v_5 b_5 => ?_)
        obtain ⟨_, _⟩ := b_5
        show pm_E _ _ _ 43 [(0, .ref (pl 203)), (1, .int (iI x)), (2, .int (iI r)), (3, .int (iI i))] [.int (iI v_5), .int (iI r), .ref (pl 206)] _ _ _ _
        refine pm_e_call (T2 := pm_mm114) pm_a122_43 rfl rfl rfl rfl rfl rfl rfl rfl rfl ?_
        show pm_E none _ _ 0 [(0, .ref (pl 206)), (1, .int (iI r)), (2, .int (iI v_5))] [] _ _ _ _
        have f_6 := (tyF_r (a := a) ho)
        refine C_yset_206 hW h203 ⟨by omega, by omega⟩ (fun a_6 g_6 => ?_)
        show pm_E _ _ _ 46 [(0, .ref (pl 203)), (1, .int (iI x)), (2, .int (iI r)), (3, .int (iI i))] [] _ _ _ _
        refine pm_e_sim pm_a122_46 rfl ?_
        show pm_E _ _ _ 47 [(0, .ref (pl 203)), (1, .int (iI x)), (2, .int (iI r)), (3, .int (iI i))] [.ref (pl 203)] _ _ _ _
        refine pm_i_get pm_a122_47 rfl (cg_203 hW h203) rfl ?_
        show pm_E _ _ _ 50 [(0, .ref (pl 203)), (1, .int (iI x)), (2, .int (iI r)), (3, .int (iI i))] [.ref (pl 206)] _ _ _ _
        refine pm_e_sim pm_a122_50 rfl ?_
        show pm_E _ _ _ 51 [(0, .ref (pl 203)), (1, .int (iI x)), (2, .int (iI r)), (3, .int (iI i))] [.int (iI r), .ref (pl 206)] _ _ _ _
        refine pm_e_call (T2 := pm_mm123) pm_a122_51 rfl rfl rfl rfl rfl rfl rfl rfl rfl ?_
        show pm_E none _ _ 0 [(0, .ref (pl 206)), (1, .int (iI r))] [] _ _ _ _
        refine C_yat_206 hW h203 ⟨by omega, by omega⟩ (fun v_7 b_7 => ?_)
        obtain ⟨_, _⟩ := b_7
        show pm_E _ _ _ 54 [(0, .ref (pl 203)), (1, .int (iI x)), (2, .int (iI r)), (3, .int (iI i))] [.int (iI v_7)] _ _ _ _
        refine pm_e_sim pm_a122_54 rfl ?_
        show pm_E _ _ _ 55 [(0, .ref (pl 203)), (1, .int (iI x)), (2, .int (iI v_7)), (3, .int (iI i))] [] _ _ _ _
        refine pm_e_inc (y := iI (i + 1)) pm_a122_55 rfl (iI_add _ _) (by decide +kernel) rfl ?_
        show pm_E _ _ _ 58 [(0, .ref (pl 203)), (1, .int (iI x)), (2, .int (iI v_7)), (3, .int (iI (i + 1)))] [] _ _ _ _
        refine pm_e_goto pm_a122_58 rfl ?_
        show pm_E _ _ _ 4 [(0, .ref (pl 203)), (1, .int (iI x)), (2, .int (iI v_7)), (3, .int (iI (i + 1)))] [] _ _ _ _
        have f_8 := (tyF_a f_6 g_6)
        exact ih v_7 (i + 1) _ _ _ ⟨by omega, by omega⟩ (by omega) (by omega) f_8.2.2.2 (fun s2 a2 c2 r f2 b2 => k s2 a2 c2 r (tyF_t f_8 f2) b2) (by omega)
set_option maxHeartbeats 4000000 in
set_option maxRecDepth 100000 in
theorem C_y_rootOf {d n : Nat} {kd pl : Nat → Nat} {s : Nat → Int} {a : Nat → Int → Int} {c : Nat → cdt} {M : List va_E} {Q : Option Value → List va_E → Nat → Nat → Prop} {x : Int} (hW : wf n kd pl) (h203 : al n kd pl 203) (ho : tyO s c) (hx : in32 x) (k : ∀ s' a' c' r, tyF s a c s' a' c' → in32 r → Q (some (.int (iI r))) (ch n kd pl s' a' c' M) 0 0) : pm_E none (d + 1) pm_mm122 0 [(0, .ref (pl 203)), (1, .int (iI x))] [] (ch n kd pl s a c M) 0 0 Q := by
  obtain ⟨⟨_, _, _, _⟩, ⟨_, _, _, _⟩, ⟨_, _⟩, ⟨_, _⟩, ⟨_, _⟩⟩ := id ho
  have rb4 := rm_b 4
  have rb5 := rm_b 5
  obtain ⟨_, _⟩ := id hx
  refine pm_e_sim pm_a122_0 rfl ?_
  show pm_E _ _ _ 1 [(0, .ref (pl 203)), (1, .int (iI x))] [.int (iI x)] _ _ _ _
  refine pm_e_sim pm_a122_1 rfl ?_
  show pm_E _ _ _ 2 [(0, .ref (pl 203)), (1, .int (iI x)), (2, .int (iI x))] [] _ _ _ _
  refine pm_e_sim pm_a122_2 rfl ?_
  refine pm_e_top (y := iI 0) (by decide +kernel) ?_
  show pm_E _ _ _ 3 [(0, .ref (pl 203)), (1, .int (iI x)), (2, .int (iI x))] [.int (iI 0)] _ _ _ _
  refine pm_e_sim pm_a122_3 rfl ?_
  show pm_E _ _ _ 4 [(0, .ref (pl 203)), (1, .int (iI x)), (2, .int (iI x)), (3, .int (iI 0))] [] _ _ _ _
  have f_1 := (tyF_r (a := a) ho)
  exact C_y_root_l hW h203 2801 x 0 _ _ _ ⟨by omega, by omega⟩ (by omega) (by omega) f_1.2.2.2 (fun s2 a2 c2 r f2 b2 => k s2 a2 c2 r (tyF_t f_1 f2) b2) (by omega)
set_option maxHeartbeats 4000000 in
set_option maxRecDepth 100000 in
theorem C_y_clear_l {d n : Nat} {kd pl : Nat → Nat} {M : List va_E} {Q : Option Value → List va_E → Nat → Nat → Prop} (hW : wf n kd pl) (h203 : al n kd pl 203) : ∀ (f : Nat) (i : Int) (s : Nat → Int) (a : Nat → Int → Int) (c : Nat → cdt), 0 ≤ i → i ≤ 2800 → tyO s c → (∀ s' a' c', tyF s a c s' a' c' → Q none (ch n kd pl s' a' c' M) 0 0) → 2800 - i < (f : Int) → pm_E none (d + 1) pm_mm132 2 [(0, .ref (pl 203)), (1, .int (iI i))] [] (ch n kd pl s a c M) 0 0 Q := by
  intro f
  induction f with
  | zero =>
    intro i s a c hi0 hi1 ho k hf
    exfalso; omega
  | succ f ih =>
    intro i s a c hi0 hi1 ho k hf
    obtain ⟨⟨_, _, _, _⟩, ⟨_, _, _, _⟩, ⟨_, _⟩, ⟨_, _⟩, ⟨_, _⟩⟩ := id ho
    have rb4 := rm_b 4
    have rb5 := rm_b 5
    refine pm_e_sim pm_a132_2 rfl ?_
    show pm_E _ _ _ 3 [(0, .ref (pl 203)), (1, .int (iI i))] [.int (iI i)] _ _ _ _
    refine pm_e_sim pm_a132_3 rfl ?_
    refine pm_e_top (y := iI 2800) (by decide +kernel) ?_
    show pm_E _ _ _ 6 [(0, .ref (pl 203)), (1, .int (iI i))] [.int (iI 2800), .int (iI i)] _ _ _ _
    refine pm_c_ge (t := 24) pm_a132_6 rfl ⟨by omega, by omega⟩ ⟨by omega, by omega⟩ (fun h_1 => ?_) (fun h_1 => ?_)
    · skip
      show pm_E _ _ _ 24 [(0, .ref (pl 203)), (1, .int (iI i))] [] _ _ _ _
      refine pm_e_ret pm_a132_24 rfl rfl rfl rfl rfl rfl rfl rfl ?_
      exact k _ _ _ (tyF_r (a := a) ho)
    · skip
      show pm_E _ _ _ 9 [(0, .ref (pl 203)), (1, .int (iI i))] [] _ _ _ _
      refine pm_e_sim pm_a132_9 rfl ?_
      show pm_E _ _ _ 10 [(0, .ref (pl 203)), (1, .int (iI i))] [.ref (pl 203)] _ _ _ _
      refine pm_i_get pm_a132_10 rfl (cg_203 hW h203) rfl ?_
      show pm_E _ _ _ 13 [(0, .ref (pl 203)), (1, .int (iI i))] [.ref (pl 208)] _ _ _ _
      refine pm_e_sim pm_a132_13 rfl ?_
      show pm_E _ _ _ 14 [(0, .ref (pl 203)), (1, .int (iI i))] [.int (iI i), .ref (pl 208)] _ _ _ _
      refine pm_e_sim pm_a132_14 rfl ?_
      refine pm_e_top (y := iI 0) (by decide +kernel) ?_
      show pm_E _ _ _ 15 [(0, .ref (pl 203)), (1, .int (iI i))] [.int (iI 0), .int (iI i), .ref (pl 208)] _ _ _ _
      refine pm_e_call (T2 := pm_mm114) pm_a132_15 rfl rfl rfl rfl rfl rfl rfl rfl rfl ?_
      show pm_E none _ _ 0 [(0, .ref (pl 208)), (1, .int (iI i)), (2, .int (iI 0))] [] _ _ _ _
      have f_2 := (tyF_r (a := a) ho)
      refine C_yset_208 hW h203 ⟨by omega, by omega⟩ (fun a_2 g_2 => ?_)
      show pm_E _ _ _ 18 [(0, .ref (pl 203)), (1, .int (iI i))] [] _ _ _ _
      refine pm_e_inc (y := iI (i + 1)) pm_a132_18 rfl (iI_add _ _) (by decide +kernel) rfl ?_
      show pm_E _ _ _ 21 [(0, .ref (pl 203)), (1, .int (iI (i + 1)))] [] _ _ _ _
      refine pm_e_goto pm_a132_21 rfl ?_
      show pm_E _ _ _ 2 [(0, .ref (pl 203)), (1, .int (iI (i + 1)))] [] _ _ _ _
      have f_3 := (tyF_a f_2 g_2)
      exact ih (i + 1) _ _ _ (by omega) (by omega) f_3.2.2.2 (fun s2 a2 c2 f2 => k s2 a2 c2 (tyF_t f_3 f2)) (by omega)
set_option maxHeartbeats 4000000 in
set_option maxRecDepth 100000 in
theorem C_y_clearMarks {d n : Nat} {kd pl : Nat → Nat} {s : Nat → Int} {a : Nat → Int → Int} {c : Nat → cdt} {M : List va_E} {Q : Option Value → List va_E → Nat → Nat → Prop} (hW : wf n kd pl) (h203 : al n kd pl 203) (ho : tyO s c)  (k : ∀ s' a' c', tyF s a c s' a' c' → Q none (ch n kd pl s' a' c' M) 0 0) : pm_E none (d + 1) pm_mm132 0 [(0, .ref (pl 203))] [] (ch n kd pl s a c M) 0 0 Q := by
  obtain ⟨⟨_, _, _, _⟩, ⟨_, _, _, _⟩, ⟨_, _⟩, ⟨_, _⟩, ⟨_, _⟩⟩ := id ho
  have rb4 := rm_b 4
  have rb5 := rm_b 5
  refine pm_e_sim pm_a132_0 rfl ?_
  refine pm_e_top (y := iI 0) (by decide +kernel) ?_
  show pm_E _ _ _ 1 [(0, .ref (pl 203))] [.int (iI 0)] _ _ _ _
  refine pm_e_sim pm_a132_1 rfl ?_
  show pm_E _ _ _ 2 [(0, .ref (pl 203)), (1, .int (iI 0))] [] _ _ _ _
  have f_1 := (tyF_r (a := a) ho)
  exact C_y_clear_l hW h203 2801 0 _ _ _ (by omega) (by omega) f_1.2.2.2 (fun s2 a2 c2 f2 => k s2 a2 c2 (tyF_t f_1 f2)) (by omega)
set_option maxHeartbeats 4000000 in
set_option maxRecDepth 100000 in
theorem C_y_enqueue {d n : Nat} {kd pl : Nat → Nat} {s : Nat → Int} {a : Nat → Int → Int} {c : Nat → cdt} {M : List va_E} {Q : Option Value → List va_E → Nat → Nat → Prop} {x y : Int} (hW : wf n kd pl) (h203 : al n kd pl 203) (ho : tyO s c) (hx : in32 x) (hy : in32 y) (k : ∀ s' a' c' r, tyF s a c s' a' c' → in32 r → Q (some (.int (iI r))) (ch n kd pl s' a' c' M) 0 0) : pm_E none (d + 1) pm_mm125 0 [(0, .ref (pl 203)), (1, .int (iI x)), (2, .int (iI y))] [] (ch n kd pl s a c M) 0 0 Q := by
  obtain ⟨⟨_, _, _, _⟩, ⟨_, _, _, _⟩, ⟨_, _⟩, ⟨_, _⟩, ⟨_, _⟩⟩ := id ho
  have rb4 := rm_b 4
  have rb5 := rm_b 5
  obtain ⟨_, _⟩ := id hx
  obtain ⟨_, _⟩ := id hy
  refine pm_e_sim pm_a125_0 rfl ?_
  show pm_E _ _ _ 1 [(0, .ref (pl 203)), (1, .int (iI x)), (2, .int (iI y))] [.int (iI y)] _ _ _ _
  refine pm_i_lt (t := 11) pm_a125_1 rfl ⟨by omega, by omega⟩ (fun h_1 => ?_) (fun h_1 => ?_)
  · skip
    show pm_E _ _ _ 11 [(0, .ref (pl 203)), (1, .int (iI x)), (2, .int (iI y))] [] _ _ _ _
    refine pm_e_sim pm_a125_11 rfl ?_
    show pm_E _ _ _ 12 [(0, .ref (pl 203)), (1, .int (iI x)), (2, .int (iI y))] [.int (iI y)] _ _ _ _
    refine pm_e_ret pm_a125_12 rfl rfl rfl rfl rfl rfl rfl rfl ?_
    exact k _ _ _ _ (tyF_r (a := a) ho) ⟨by omega, by omega⟩
  · skip
    show pm_E _ _ _ 4 [(0, .ref (pl 203)), (1, .int (iI x)), (2, .int (iI y))] [] _ _ _ _
    refine pm_e_sim pm_a125_4 rfl ?_
    show pm_E _ _ _ 5 [(0, .ref (pl 203)), (1, .int (iI x)), (2, .int (iI y))] [.int (iI y)] _ _ _ _
    refine pm_e_sim pm_a125_5 rfl ?_
    refine pm_e_top (y := iI 2800) (by decide +kernel) ?_
    show pm_E _ _ _ 8 [(0, .ref (pl 203)), (1, .int (iI x)), (2, .int (iI y))] [.int (iI 2800), .int (iI y)] _ _ _ _
    refine pm_c_lt (t := 13) pm_a125_8 rfl ⟨by omega, by omega⟩ ⟨by omega, by omega⟩ (fun h_2 => ?_) (fun h_2 => ?_)
    · skip
      show pm_E _ _ _ 13 [(0, .ref (pl 203)), (1, .int (iI x)), (2, .int (iI y))] [] _ _ _ _
      refine pm_e_sim pm_a125_13 rfl ?_
      show pm_E _ _ _ 14 [(0, .ref (pl 203)), (1, .int (iI x)), (2, .int (iI y))] [.ref (pl 203)] _ _ _ _
      refine pm_i_get pm_a125_14 rfl (cg_203 hW h203) rfl ?_
      show pm_E _ _ _ 17 [(0, .ref (pl 203)), (1, .int (iI x)), (2, .int (iI y))] [.ref (pl 207)] _ _ _ _
      refine pm_e_sim pm_a125_17 rfl ?_
      show pm_E _ _ _ 18 [(0, .ref (pl 203)), (1, .int (iI x)), (2, .int (iI y))] [.int (iI y), .ref (pl 207)] _ _ _ _
      refine pm_e_sim pm_a125_18 rfl ?_
      show pm_E _ _ _ 19 [(0, .ref (pl 203)), (1, .int (iI x)), (2, .int (iI y))] [.int (iI x), .int (iI y), .ref (pl 207)] _ _ _ _
      refine pm_e_call (T2 := pm_mm114) pm_a125_19 rfl rfl rfl rfl rfl rfl rfl rfl rfl ?_
      show pm_E none _ _ 0 [(0, .ref (pl 207)), (1, .int (iI y)), (2, .int (iI x))] [] _ _ _ _
      have f_3 := (tyF_r (a := a) ho)
      refine C_yset_207 hW h203 ⟨by omega, by omega⟩ (fun a_3 g_3 => ?_)
      show pm_E _ _ _ 22 [(0, .ref (pl 203)), (1, .int (iI x)), (2, .int (iI y))] [] _ _ _ _
      refine pm_e_sim pm_a125_22 rfl ?_
      show pm_E _ _ _ 23 [(0, .ref (pl 203)), (1, .int (iI x)), (2, .int (iI y))] [.int (iI y)] _ _ _ _
      refine pm_e_sim pm_a125_23 rfl ?_
      refine pm_e_top (y := iI 1) (by decide +kernel) ?_
      show pm_E _ _ _ 24 [(0, .ref (pl 203)), (1, .int (iI x)), (2, .int (iI y))] [.int (iI 1), .int (iI y)] _ _ _ _
      refine pm_e_sim pm_a125_24 rfl ?_
      refine pm_e_top (y := iI (y + 1)) (iI_add _ _) ?_
      show pm_E _ _ _ 25 [(0, .ref (pl 203)), (1, .int (iI x)), (2, .int (iI y))] [.int (iI (y + 1))] _ _ _ _
      refine pm_e_ret pm_a125_25 rfl rfl rfl rfl rfl rfl rfl rfl ?_
      exact k _ _ _ _ (tyF_a f_3 g_3) ⟨by omega, by omega⟩
    · skip
      show pm_E _ _ _ 11 [(0, .ref (pl 203)), (1, .int (iI x)), (2, .int (iI y))] [] _ _ _ _
      refine pm_e_sim pm_a125_11 rfl ?_
      show pm_E _ _ _ 12 [(0, .ref (pl 203)), (1, .int (iI x)), (2, .int (iI y))] [.int (iI y)] _ _ _ _
      refine pm_e_ret pm_a125_12 rfl rfl rfl rfl rfl rfl rfl rfl ?_
      exact k _ _ _ _ (tyF_r (a := a) ho) ⟨by omega, by omega⟩
set_option maxHeartbeats 4000000 in
set_option maxRecDepth 100000 in
theorem C_y_countSide {d n : Nat} {kd pl : Nat → Nat} {s : Nat → Int} {a : Nat → Int → Int} {c : Nat → cdt} {M : List va_E} {Q : Option Value → List va_E → Nat → Nat → Prop} {x : Int} (hW : wf n kd pl) (h203 : al n kd pl 203) (ho : tyO s c) (hx : in32 x) (k : ∀ s' a' c', tyF s a c s' a' c' → Q none (ch n kd pl s' a' c' M) 0 0) : pm_E none (d + 1) pm_mm133 0 [(0, .ref (pl 203)), (1, .int (iI x))] [] (ch n kd pl s a c M) 0 0 Q := by
  obtain ⟨⟨_, _, _, _⟩, ⟨_, _, _, _⟩, ⟨_, _⟩, ⟨_, _⟩, ⟨_, _⟩⟩ := id ho
  have rb4 := rm_b 4
  have rb5 := rm_b 5
  obtain ⟨_, _⟩ := id hx
  refine pm_e_sim pm_a133_0 rfl ?_
  show pm_E _ _ _ 1 [(0, .ref (pl 203)), (1, .int (iI x))] [.ref (pl 203)] _ _ _ _
  refine pm_i_get pm_a133_1 rfl (cg_203 hW h203) rfl ?_
  show pm_E _ _ _ 4 [(0, .ref (pl 203)), (1, .int (iI x))] [.ref (pl 208)] _ _ _ _
  refine pm_e_sim pm_a133_4 rfl ?_
  show pm_E _ _ _ 5 [(0, .ref (pl 203)), (1, .int (iI x))] [.int (iI x), .ref (pl 208)] _ _ _ _
  refine pm_e_sim pm_a133_5 rfl ?_
  show pm_E _ _ _ 6 [(0, .ref (pl 203)), (1, .int (iI x))] [.ref (pl 203), .int (iI x), .ref (pl 208)] _ _ _ _
  refine pm_i_get pm_a133_6 rfl (cg_203 hW h203) rfl ?_
  show pm_E _ _ _ 9 [(0, .ref (pl 203)), (1, .int (iI x))] [.ref (pl 208), .int (iI x), .ref (pl 208)] _ _ _ _
  refine pm_e_sim pm_a133_9 rfl ?_
  show pm_E _ _ _ 10 [(0, .ref (pl 203)), (1, .int (iI x))] [.int (iI x), .ref (pl 208), .int (iI x), .ref (pl 208)] _ _ _ _
  refine pm_e_call (T2 := pm_mm123) pm_a133_10 rfl rfl rfl rfl rfl rfl rfl rfl rfl ?_
  show pm_E none _ _ 0 [(0, .ref (pl 208)), (1, .int (iI x))] [] _ _ _ _
  refine C_yat_208 hW h203 ⟨by omega, by omega⟩ (fun v_1 b_1 => ?_)
  obtain ⟨_, _⟩ := b_1
  show pm_E _ _ _ 13 [(0, .ref (pl 203)), (1, .int (iI x))] [.int (iI v_1), .int (iI x), .ref (pl 208)] _ _ _ _
  refine pm_e_sim pm_a133_13 rfl ?_
  refine pm_e_top (y := iI 1) (by decide +kernel) ?_
  show pm_E _ _ _ 14 [(0, .ref (pl 203)), (1, .int (iI x))] [.int (iI 1), .int (iI v_1), .int (iI x), .ref (pl 208)] _ _ _ _
  refine pm_e_sim pm_a133_14 rfl ?_
  refine pm_e_top (y := iI (v_1 + 1)) (iI_add _ _) ?_
  show pm_E _ _ _ 15 [(0, .ref (pl 203)), (1, .int (iI x))] [.int (iI (v_1 + 1)), .int (iI x), .ref (pl 208)] _ _ _ _
  refine pm_e_call (T2 := pm_mm114) pm_a133_15 rfl rfl rfl rfl rfl rfl rfl rfl rfl ?_
  show pm_E none _ _ 0 [(0, .ref (pl 208)), (1, .int (iI x)), (2, .int (iI (v_1 + 1)))] [] _ _ _ _
  have f_2 := (tyF_r (a := a) ho)
  refine C_yset_208 hW h203 ⟨by omega, by omega⟩ (fun a_2 g_2 => ?_)
  show pm_E _ _ _ 18 [(0, .ref (pl 203)), (1, .int (iI x))] [] _ _ _ _
  refine pm_e_ret pm_a133_18 rfl rfl rfl rfl rfl rfl rfl rfl ?_
  exact k _ _ _ (tyF_a f_2 g_2)
set_option maxHeartbeats 4000000 in
set_option maxRecDepth 100000 in
theorem C_y_release {d n : Nat} {kd pl : Nat → Nat} {s : Nat → Int} {a : Nat → Int → Int} {c : Nat → cdt} {M : List va_E} {Q : Option Value → List va_E → Nat → Nat → Prop} {x y : Int} (hW : wf n kd pl) (h203 : al n kd pl 203) (ho : tyO s c) (hx : in32 x) (hy : in32 y) (k : ∀ s' a' c' r, tyF s a c s' a' c' → in32 r → Q (some (.int (iI r))) (ch n kd pl s' a' c' M) 0 0) : pm_E none (d + 2) pm_mm134 0 [(0, .ref (pl 203)), (1, .int (iI x)), (2, .int (iI y))] [] (ch n kd pl s a c M) 0 0 Q := by
  obtain ⟨⟨_, _, _, _⟩, ⟨_, _, _, _⟩, ⟨_, _⟩, ⟨_, _⟩, ⟨_, _⟩⟩ := id ho
  have rb4 := rm_b 4
  have rb5 := rm_b 5
  obtain ⟨_, _⟩ := id hx
  obtain ⟨_, _⟩ := id hy
  refine pm_e_sim pm_a134_0 rfl ?_
  show pm_E _ _ _ 1 [(0, .ref (pl 203)), (1, .int (iI x)), (2, .int (iI y))] [.ref (pl 203)] _ _ _ _
  refine pm_i_get pm_a134_1 rfl (cg_203 hW h203) rfl ?_
  show pm_E _ _ _ 4 [(0, .ref (pl 203)), (1, .int (iI x)), (2, .int (iI y))] [.ref (pl 208)] _ _ _ _
  refine pm_e_sim pm_a134_4 rfl ?_
  show pm_E _ _ _ 5 [(0, .ref (pl 203)), (1, .int (iI x)), (2, .int (iI y))] [.int (iI x), .ref (pl 208)] _ _ _ _
  refine pm_e_sim pm_a134_5 rfl ?_
  show pm_E _ _ _ 6 [(0, .ref (pl 203)), (1, .int (iI x)), (2, .int (iI y))] [.ref (pl 203), .int (iI x), .ref (pl 208)] _ _ _ _
  refine pm_i_get pm_a134_6 rfl (cg_203 hW h203) rfl ?_
  show pm_E _ _ _ 9 [(0, .ref (pl 203)), (1, .int (iI x)), (2, .int (iI y))] [.ref (pl 208), .int (iI x), .ref (pl 208)] _ _ _ _
  refine pm_e_sim pm_a134_9 rfl ?_
  show pm_E _ _ _ 10 [(0, .ref (pl 203)), (1, .int (iI x)), (2, .int (iI y))] [.int (iI x), .ref (pl 208), .int (iI x), .ref (pl 208)] _ _ _ _
  refine pm_e_call (T2 := pm_mm123) pm_a134_10 rfl rfl rfl rfl rfl rfl rfl rfl rfl ?_
  show pm_E none _ _ 0 [(0, .ref (pl 208)), (1, .int (iI x))] [] _ _ _ _
  refine C_yat_208 hW h203 ⟨by omega, by omega⟩ (fun v_1 b_1 => ?_)
  obtain ⟨_, _⟩ := b_1
  show pm_E _ _ _ 13 [(0, .ref (pl 203)), (1, .int (iI x)), (2, .int (iI y))] [.int (iI v_1), .int (iI x), .ref (pl 208)] _ _ _ _
  refine pm_e_sim pm_a134_13 rfl ?_
  refine pm_e_top (y := iI 1) (by decide +kernel) ?_
  show pm_E _ _ _ 14 [(0, .ref (pl 203)), (1, .int (iI x)), (2, .int (iI y))] [.int (iI 1), .int (iI v_1), .int (iI x), .ref (pl 208)] _ _ _ _
  refine pm_e_sim pm_a134_14 rfl ?_
  refine pm_e_top (y := iI (v_1 - 1)) (iI_sub _ _) ?_
  show pm_E _ _ _ 15 [(0, .ref (pl 203)), (1, .int (iI x)), (2, .int (iI y))] [.int (iI (v_1 - 1)), .int (iI x), .ref (pl 208)] _ _ _ _
  refine pm_e_call (T2 := pm_mm114) pm_a134_15 rfl rfl rfl rfl rfl rfl rfl rfl rfl ?_
  show pm_E none _ _ 0 [(0, .ref (pl 208)), (1, .int (iI x)), (2, .int (iI (v_1 - 1)))] [] _ _ _ _
  have f_2 := (tyF_r (a := a) ho)
  refine C_yset_208 hW h203 ⟨by omega, by omega⟩ (fun a_2 g_2 => ?_)
  show pm_E _ _ _ 18 [(0, .ref (pl 203)), (1, .int (iI x)), (2, .int (iI y))] [] _ _ _ _
  refine pm_e_sim pm_a134_18 rfl ?_
  show pm_E _ _ _ 19 [(0, .ref (pl 203)), (1, .int (iI x)), (2, .int (iI y))] [.ref (pl 203)] _ _ _ _
  refine pm_i_get pm_a134_19 rfl (cg_203 hW h203) rfl ?_
  show pm_E _ _ _ 22 [(0, .ref (pl 203)), (1, .int (iI x)), (2, .int (iI y))] [.ref (pl 208)] _ _ _ _
  refine pm_e_sim pm_a134_22 rfl ?_
  show pm_E _ _ _ 23 [(0, .ref (pl 203)), (1, .int (iI x)), (2, .int (iI y))] [.int (iI x), .ref (pl 208)] _ _ _ _
  refine pm_e_call (T2 := pm_mm123) pm_a134_23 rfl rfl rfl rfl rfl rfl rfl rfl rfl ?_
  show pm_E none _ _ 0 [(0, .ref (pl 208)), (1, .int (iI x))] [] _ _ _ _
  refine C_yat_208 hW h203 ⟨by omega, by omega⟩ (fun v_3 b_3 => ?_)
  obtain ⟨_, _⟩ := b_3
  show pm_E _ _ _ 26 [(0, .ref (pl 203)), (1, .int (iI x)), (2, .int (iI y))] [.int (iI v_3)] _ _ _ _
  refine pm_i_ne (t := 38) pm_a134_26 rfl ⟨by omega, by omega⟩ (fun h_4 => ?_) (fun h_4 => ?_)
  · skip
    show pm_E _ _ _ 38 [(0, .ref (pl 203)), (1, .int (iI x)), (2, .int (iI y))] [] _ _ _ _
    refine pm_e_sim pm_a134_38 rfl ?_
    show pm_E _ _ _ 39 [(0, .ref (pl 203)), (1, .int (iI x)), (2, .int (iI y))] [.int (iI y)] _ _ _ _
    refine pm_e_ret pm_a134_39 rfl rfl rfl rfl rfl rfl rfl rfl ?_
    exact k _ _ _ _ (tyF_a f_2 g_2) ⟨by omega, by omega⟩
  · skip
    show pm_E _ _ _ 29 [(0, .ref (pl 203)), (1, .int (iI x)), (2, .int (iI y))] [] _ _ _ _
    refine pm_e_sim pm_a134_29 rfl ?_
    show pm_E _ _ _ 30 [(0, .ref (pl 203)), (1, .int (iI x)), (2, .int (iI y))] [.ref (pl 203)] _ _ _ _
    refine pm_e_sim pm_a134_30 rfl ?_
    show pm_E _ _ _ 31 [(0, .ref (pl 203)), (1, .int (iI x)), (2, .int (iI y))] [.int (iI x), .ref (pl 203)] _ _ _ _
    refine pm_e_sim pm_a134_31 rfl ?_
    show pm_E _ _ _ 32 [(0, .ref (pl 203)), (1, .int (iI x)), (2, .int (iI y))] [.int (iI y), .int (iI x), .ref (pl 203)] _ _ _ _
    refine pm_i_callv (k := (pl 203)) (T2 := pm_mm125) pm_a134_32 rfl rfl rfl (cg_203 hW h203) ⟨Nat.le_of_ble_eq_true rfl, Nat.le_of_ble_eq_true rfl, rfl, by decide +kernel⟩ ?_
    show pm_E none _ _ 0 [(0, .ref (pl 203)), (1, .int (iI x)), (2, .int (iI y))] [] _ _ _ _
    have f_5 := (tyF_a f_2 g_2)
    refine C_y_enqueue hW h203 f_5.2.2.2 ⟨by omega, by omega⟩ ⟨by omega, by omega⟩ (fun s_5 a_5 c_5 v_5 g_5 b_5 => ?_)
    have e_5 := g_5.2.2.2
    obtain ⟨⟨_, _, _, _⟩, ⟨_, _, _, _⟩, ⟨_, _⟩, ⟨_, _⟩, ⟨_, _⟩⟩ := e_5
    obtain ⟨_, _⟩ := b_5
    show pm_E _ _ _ 35 [(0, .ref (pl 203)), (1, .int (iI x)), (2, .int (iI y))] [.int (iI v_5)] _ _ _ _
    refine pm_e_goto pm_a134_35 rfl ?_
    show pm_E _ _ _ 39 [(0, .ref (pl 203)), (1, .int (iI x)), (2, .int (iI y))] [.int (iI v_5)] _ _ _ _
    refine pm_e_ret pm_a134_39 rfl rfl rfl rfl rfl rfl rfl rfl ?_
    exact k _ _ _ _ (tyF_t f_5 g_5) ⟨by omega, by omega⟩
set_option maxHeartbeats 4000000 in
set_option maxRecDepth 100000 in
theorem C_y_typeOfI {d n : Nat} {kd pl : Nat → Nat} {s : Nat → Int} {a : Nat → Int → Int} {c : Nat → cdt} {M : List va_E} {Q : Option Value → List va_E → Nat → Nat → Prop} {x : Int} (hW : wf n kd pl) (h203 : al n kd pl 203) (ho : tyO s c) (hx : in32 x) (k : ∀ s' a' c' r, tyF s a c s' a' c' → in32 r → Q (some (.int (iI r))) (ch n kd pl s' a' c' M) 0 0) : pm_E none (d + 2) pm_mm129 0 [(0, .ref (pl 203)), (1, .int (iI x))] [] (ch n kd pl s a c M) 0 0 Q := by
  obtain ⟨⟨_, _, _, _⟩, ⟨_, _, _, _⟩, ⟨_, _⟩, ⟨_, _⟩, ⟨_, _⟩⟩ := id ho
  have rb4 := rm_b 4
  have rb5 := rm_b 5
  obtain ⟨_, _⟩ := id hx
  refine pm_e_sim pm_a129_0 rfl ?_
  show pm_E _ _ _ 1 [(0, .ref (pl 203)), (1, .int (iI x))] [.ref (pl 203)] _ _ _ _
  refine pm_e_sim pm_a129_1 rfl ?_
  show pm_E _ _ _ 2 [(0, .ref (pl 203)), (1, .int (iI x))] [.int (iI x), .ref (pl 203)] _ _ _ _
  refine pm_e_sim pm_a129_2 rfl ?_
  show pm_E _ _ _ 3 [(0, .ref (pl 203)), (1, .int (iI x))] [.int (iI x), .int (iI x), .ref (pl 203)] _ _ _ _
  refine pm_i_callv (k := (pl 203)) (T2 := pm_mm113) pm_a129_3 rfl rfl rfl (cg_203 hW h203) ⟨Nat.le_of_ble_eq_true rfl, Nat.le_of_ble_eq_true rfl, rfl, by decide +kernel⟩ ?_
  show pm_E none _ _ 0 [(0, .ref (pl 203)), (1, .int (iI x)), (2, .int (iI x))] [] _ _ _ _
  have f_1 := (tyF_r (a := a) ho)
  refine C_y_arrow hW h203 f_1.2.2.2 ⟨by omega, by omega⟩ ⟨by omega, by omega⟩ (fun s_1 a_1 c_1 v_1 g_1 b_1 => ?_)
  have e_1 := g_1.2.2.2
  obtain ⟨⟨_, _, _, _⟩, ⟨_, _, _, _⟩, ⟨_, _⟩, ⟨_, _⟩, ⟨_, _⟩⟩ := e_1
  obtain ⟨_, _⟩ := b_1
  show pm_E _ _ _ 6 [(0, .ref (pl 203)), (1, .int (iI x))] [.int (iI v_1)] _ _ _ _
  refine pm_e_ret pm_a129_6 rfl rfl rfl rfl rfl rfl rfl rfl ?_
  exact k _ _ _ _ (tyF_t f_1 g_1) ⟨by omega, by omega⟩
set_option maxHeartbeats 4000000 in
set_option maxRecDepth 100000 in
theorem C_y_typeOfK {d n : Nat} {kd pl : Nat → Nat} {s : Nat → Int} {a : Nat → Int → Int} {c : Nat → cdt} {M : List va_E} {Q : Option Value → List va_E → Nat → Nat → Prop} {x y : Int} (hW : wf n kd pl) (h203 : al n kd pl 203) (ho : tyO s c) (hx : in32 x) (hy : in32 y) (k : ∀ s' a' c' r, tyF s a c s' a' c' → in32 r → Q (some (.int (iI r))) (ch n kd pl s' a' c' M) 0 0) : pm_E none (d + 2) pm_mm128 0 [(0, .ref (pl 203)), (1, .int (iI x)), (2, .int (iI y))] [] (ch n kd pl s a c M) 0 0 Q := by
  obtain ⟨⟨_, _, _, _⟩, ⟨_, _, _, _⟩, ⟨_, _⟩, ⟨_, _⟩, ⟨_, _⟩⟩ := id ho
  have rb4 := rm_b 4
  have rb5 := rm_b 5
  obtain ⟨_, _⟩ := id hx
  obtain ⟨_, _⟩ := id hy
  refine pm_e_sim pm_a128_0 rfl ?_
  show pm_E _ _ _ 1 [(0, .ref (pl 203)), (1, .int (iI x)), (2, .int (iI y))] [.ref (pl 203)] _ _ _ _
  refine pm_e_sim pm_a128_1 rfl ?_
  show pm_E _ _ _ 2 [(0, .ref (pl 203)), (1, .int (iI x)), (2, .int (iI y))] [.int (iI x), .ref (pl 203)] _ _ _ _
  refine pm_e_sim pm_a128_2 rfl ?_
  show pm_E _ _ _ 3 [(0, .ref (pl 203)), (1, .int (iI x)), (2, .int (iI y))] [.ref (pl 203), .int (iI x), .ref (pl 203)] _ _ _ _
  refine pm_e_sim pm_a128_3 rfl ?_
  show pm_E _ _ _ 4 [(0, .ref (pl 203)), (1, .int (iI x)), (2, .int (iI y))] [.int (iI y), .ref (pl 203), .int (iI x), .ref (pl 203)] _ _ _ _
  refine pm_e_sim pm_a128_4 rfl ?_
  show pm_E _ _ _ 5 [(0, .ref (pl 203)), (1, .int (iI x)), (2, .int (iI y))] [.int (iI x), .int (iI y), .ref (pl 203), .int (iI x), .ref (pl 203)] _ _ _ _
  refine pm_i_callv (k := (pl 203)) (T2 := pm_mm113) pm_a128_5 rfl rfl rfl (cg_203 hW h203) ⟨Nat.le_of_ble_eq_true rfl, Nat.le_of_ble_eq_true rfl, rfl, by decide +kernel⟩ ?_
  show pm_E none _ _ 0 [(0, .ref (pl 203)), (1, .int (iI y)), (2, .int (iI x))] [] _ _ _ _
  have f_1 := (tyF_r (a := a) ho)
  refine C_y_arrow hW h203 f_1.2.2.2 ⟨by omega, by omega⟩ ⟨by omega, by omega⟩ (fun s_1 a_1 c_1 v_1 g_1 b_1 => ?_)
  have e_1 := g_1.2.2.2
  obtain ⟨⟨_, _, _, _⟩, ⟨_, _, _, _⟩, ⟨_, _⟩, ⟨_, _⟩, ⟨_, _⟩⟩ := e_1
  obtain ⟨_, _⟩ := b_1
  show pm_E _ _ _ 8 [(0, .ref (pl 203)), (1, .int (iI x)), (2, .int (iI y))] [.int (iI v_1), .int (iI x), .ref (pl 203)] _ _ _ _
  refine pm_i_callv (k := (pl 203)) (T2 := pm_mm113) pm_a128_8 rfl rfl rfl (cg_203 hW h203) ⟨Nat.le_of_ble_eq_true rfl, Nat.le_of_ble_eq_true rfl, rfl, by decide +kernel⟩ ?_
  show pm_E none _ _ 0 [(0, .ref (pl 203)), (1, .int (iI x)), (2, .int (iI v_1))] [] _ _ _ _
  have f_2 := (tyF_t f_1 g_1)
  refine C_y_arrow hW h203 f_2.2.2.2 ⟨by omega, by omega⟩ ⟨by omega, by omega⟩ (fun s_2 a_2 c_2 v_2 g_2 b_2 => ?_)
  have e_2 := g_2.2.2.2
  obtain ⟨⟨_, _, _, _⟩, ⟨_, _, _, _⟩, ⟨_, _⟩, ⟨_, _⟩, ⟨_, _⟩⟩ := e_2
  obtain ⟨_, _⟩ := b_2
  show pm_E _ _ _ 11 [(0, .ref (pl 203)), (1, .int (iI x)), (2, .int (iI y))] [.int (iI v_2)] _ _ _ _
  refine pm_e_ret pm_a128_11 rfl rfl rfl rfl rfl rfl rfl rfl ?_
  exact k _ _ _ _ (tyF_t f_2 g_2) ⟨by omega, by omega⟩
set_option maxHeartbeats 4000000 in
set_option maxRecDepth 100000 in
theorem C_y_typeOfS {d n : Nat} {kd pl : Nat → Nat} {s : Nat → Int} {a : Nat → Int → Int} {c : Nat → cdt} {M : List va_E} {Q : Option Value → List va_E → Nat → Nat → Prop} {x y z : Int} (hW : wf n kd pl) (h203 : al n kd pl 203) (ho : tyO s c) (hx : in32 x) (hy : in32 y) (hz : in32 z) (k : ∀ s' a' c' r, tyF s a c s' a' c' → in32 r → Q (some (.int (iI r))) (ch n kd pl s' a' c' M) 0 0) : pm_E none (d + 2) pm_mm127 0 [(0, .ref (pl 203)), (1, .int (iI x)), (2, .int (iI y)), (3, .int (iI z))] [] (ch n kd pl s a c M) 0 0 Q := by
  obtain ⟨⟨_, _, _, _⟩, ⟨_, _, _, _⟩, ⟨_, _⟩, ⟨_, _⟩, ⟨_, _⟩⟩ := id ho
  have rb4 := rm_b 4
  have rb5 := rm_b 5
  obtain ⟨_, _⟩ := id hx
  obtain ⟨_, _⟩ := id hy
  obtain ⟨_, _⟩ := id hz
  refine pm_e_sim pm_a127_0 rfl ?_
  show pm_E _ _ _ 1 [(0, .ref (pl 203)), (1, .int (iI x)), (2, .int (iI y)), (3, .int (iI z))] [.ref (pl 203)] _ _ _ _
  refine pm_e_sim pm_a127_1 rfl ?_
  show pm_E _ _ _ 2 [(0, .ref (pl 203)), (1, .int (iI x)), (2, .int (iI y)), (3, .int (iI z))] [.int (iI x), .ref (pl 203)] _ _ _ _
  refine pm_e_sim pm_a127_2 rfl ?_
  show pm_E _ _ _ 3 [(0, .ref (pl 203)), (1, .int (iI x)), (2, .int (iI y)), (3, .int (iI z))] [.ref (pl 203), .int (iI x), .ref (pl 203)] _ _ _ _
  refine pm_e_sim pm_a127_3 rfl ?_
  show pm_E _ _ _ 4 [(0, .ref (pl 203)), (1, .int (iI x)), (2, .int (iI y)), (3, .int (iI z))] [.int (iI y), .ref (pl 203), .int (iI x), .ref (pl 203)] _ _ _ _
  refine pm_e_sim pm_a127_4 rfl ?_
  show pm_E _ _ _ 5 [(0, .ref (pl 203)), (1, .int (iI x)), (2, .int (iI y)), (3, .int (iI z))] [.int (iI z), .int (iI y), .ref (pl 203), .int (iI x), .ref (pl 203)] _ _ _ _
  refine pm_i_callv (k := (pl 203)) (T2 := pm_mm113) pm_a127_5 rfl rfl rfl (cg_203 hW h203) ⟨Nat.le_of_ble_eq_true rfl, Nat.le_of_ble_eq_true rfl, rfl, by decide +kernel⟩ ?_
  show pm_E none _ _ 0 [(0, .ref (pl 203)), (1, .int (iI y)), (2, .int (iI z))] [] _ _ _ _
  have f_1 := (tyF_r (a := a) ho)
  refine C_y_arrow hW h203 f_1.2.2.2 ⟨by omega, by omega⟩ ⟨by omega, by omega⟩ (fun s_1 a_1 c_1 v_1 g_1 b_1 => ?_)
  have e_1 := g_1.2.2.2
  obtain ⟨⟨_, _, _, _⟩, ⟨_, _, _, _⟩, ⟨_, _⟩, ⟨_, _⟩, ⟨_, _⟩⟩ := e_1
  obtain ⟨_, _⟩ := b_1
  show pm_E _ _ _ 8 [(0, .ref (pl 203)), (1, .int (iI x)), (2, .int (iI y)), (3, .int (iI z))] [.int (iI v_1), .int (iI x), .ref (pl 203)] _ _ _ _
  refine pm_i_callv (k := (pl 203)) (T2 := pm_mm113) pm_a127_8 rfl rfl rfl (cg_203 hW h203) ⟨Nat.le_of_ble_eq_true rfl, Nat.le_of_ble_eq_true rfl, rfl, by decide +kernel⟩ ?_
  show pm_E none _ _ 0 [(0, .ref (pl 203)), (1, .int (iI x)), (2, .int (iI v_1))] [] _ _ _ _
  have f_2 := (tyF_t f_1 g_1)
  refine C_y_arrow hW h203 f_2.2.2.2 ⟨by omega, by omega⟩ ⟨by omega, by omega⟩ (fun s_2 a_2 c_2 v_2 g_2 b_2 => ?_)
  have e_2 := g_2.2.2.2
  obtain ⟨⟨_, _, _, _⟩, ⟨_, _, _, _⟩, ⟨_, _⟩, ⟨_, _⟩, ⟨_, _⟩⟩ := e_2
  obtain ⟨_, _⟩ := b_2
  show pm_E _ _ _ 11 [(0, .ref (pl 203)), (1, .int (iI x)), (2, .int (iI y)), (3, .int (iI z))] [.int (iI v_2)] _ _ _ _
  refine pm_e_sim pm_a127_11 rfl ?_
  show pm_E _ _ _ 13 [(0, .ref (pl 203)), (1, .int (iI x)), (2, .int (iI y)), (3, .int (iI z)), (4, .int (iI v_2))] [] _ _ _ _
  refine pm_e_sim pm_a127_13 rfl ?_
  show pm_E _ _ _ 14 [(0, .ref (pl 203)), (1, .int (iI x)), (2, .int (iI y)), (3, .int (iI z)), (4, .int (iI v_2))] [.ref (pl 203)] _ _ _ _
  refine pm_e_sim pm_a127_14 rfl ?_
  show pm_E _ _ _ 16 [(0, .ref (pl 203)), (1, .int (iI x)), (2, .int (iI y)), (3, .int (iI z)), (4, .int (iI v_2))] [.int (iI v_2), .ref (pl 203)] _ _ _ _
  refine pm_e_sim pm_a127_16 rfl ?_
  show pm_E _ _ _ 17 [(0, .ref (pl 203)), (1, .int (iI x)), (2, .int (iI y)), (3, .int (iI z)), (4, .int (iI v_2))] [.ref (pl 203), .int (iI v_2), .ref (pl 203)] _ _ _ _
  refine pm_e_sim pm_a127_17 rfl ?_
  show pm_E _ _ _ 18 [(0, .ref (pl 203)), (1, .int (iI x)), (2, .int (iI y)), (3, .int (iI z)), (4, .int (iI v_2))] [.ref (pl 203), .ref (pl 203), .int (iI v_2), .ref (pl 203)] _ _ _ _
  refine pm_e_sim pm_a127_18 rfl ?_
  show pm_E _ _ _ 19 [(0, .ref (pl 203)), (1, .int (iI x)), (2, .int (iI y)), (3, .int (iI z)), (4, .int (iI v_2))] [.int (iI x), .ref (pl 203), .ref (pl 203), .int (iI v_2), .ref (pl 203)] _ _ _ _
  refine pm_e_sim pm_a127_19 rfl ?_
  show pm_E _ _ _ 20 [(0, .ref (pl 203)), (1, .int (iI x)), (2, .int (iI y)), (3, .int (iI z)), (4, .int (iI v_2))] [.int (iI y), .int (iI x), .ref (pl 203), .ref (pl 203), .int (iI v_2), .ref (pl 203)] _ _ _ _
  refine pm_i_callv (k := (pl 203)) (T2 := pm_mm113) pm_a127_20 rfl rfl rfl (cg_203 hW h203) ⟨Nat.le_of_ble_eq_true rfl, Nat.le_of_ble_eq_true rfl, rfl, by decide +kernel⟩ ?_
  show pm_E none _ _ 0 [(0, .ref (pl 203)), (1, .int (iI x)), (2, .int (iI y))] [] _ _ _ _
  have f_3 := (tyF_t f_2 g_2)
  refine C_y_arrow hW h203 f_3.2.2.2 ⟨by omega, by omega⟩ ⟨by omega, by omega⟩ (fun s_3 a_3 c_3 v_3 g_3 b_3 => ?_)
  have e_3 := g_3.2.2.2
  obtain ⟨⟨_, _, _, _⟩, ⟨_, _, _, _⟩, ⟨_, _⟩, ⟨_, _⟩, ⟨_, _⟩⟩ := e_3
  obtain ⟨_, _⟩ := b_3
  show pm_E _ _ _ 23 [(0, .ref (pl 203)), (1, .int (iI x)), (2, .int (iI y)), (3, .int (iI z)), (4, .int (iI v_2))] [.int (iI v_3), .ref (pl 203), .int (iI v_2), .ref (pl 203)] _ _ _ _
  refine pm_e_sim pm_a127_23 rfl ?_
  show pm_E _ _ _ 24 [(0, .ref (pl 203)), (1, .int (iI x)), (2, .int (iI y)), (3, .int (iI z)), (4, .int (iI v_2))] [.ref (pl 203), .int (iI v_3), .ref (pl 203), .int (iI v_2), .ref (pl 203)] _ _ _ _
  refine pm_e_sim pm_a127_24 rfl ?_
  show pm_E _ _ _ 25 [(0, .ref (pl 203)), (1, .int (iI x)), (2, .int (iI y)), (3, .int (iI z)), (4, .int (iI v_2))] [.int (iI x), .ref (pl 203), .int (iI v_3), .ref (pl 203), .int (iI v_2), .ref (pl 203)] _ _ _ _
  refine pm_e_sim pm_a127_25 rfl ?_
  show pm_E _ _ _ 26 [(0, .ref (pl 203)), (1, .int (iI x)), (2, .int (iI y)), (3, .int (iI z)), (4, .int (iI v_2))] [.int (iI z), .int (iI x), .ref (pl 203), .int (iI v_3), .ref (pl 203), .int (iI v_2), .ref (pl 203)] _ _ _ _
  refine pm_i_callv (k := (pl 203)) (T2 := pm_mm113) pm_a127_26 rfl rfl rfl (cg_203 hW h203) ⟨Nat.le_of_ble_eq_true rfl, Nat.le_of_ble_eq_true rfl, rfl, by decide +kernel⟩ ?_
  show pm_E none _ _ 0 [(0, .ref (pl 203)), (1, .int (iI x)), (2, .int (iI z))] [] _ _ _ _
  have f_4 := (tyF_t f_3 g_3)
  refine C_y_arrow hW h203 f_4.2.2.2 ⟨by omega, by omega⟩ ⟨by omega, by omega⟩ (fun s_4 a_4 c_4 v_4 g_4 b_4 => ?_)
  have e_4 := g_4.2.2.2
  obtain ⟨⟨_, _, _, _⟩, ⟨_, _, _, _⟩, ⟨_, _⟩, ⟨_, _⟩, ⟨_, _⟩⟩ := e_4
  obtain ⟨_, _⟩ := b_4
  show pm_E _ _ _ 29 [(0, .ref (pl 203)), (1, .int (iI x)), (2, .int (iI y)), (3, .int (iI z)), (4, .int (iI v_2))] [.int (iI v_4), .int (iI v_3), .ref (pl 203), .int (iI v_2), .ref (pl 203)] _ _ _ _
  refine pm_i_callv (k := (pl 203)) (T2 := pm_mm113) pm_a127_29 rfl rfl rfl (cg_203 hW h203) ⟨Nat.le_of_ble_eq_true rfl, Nat.le_of_ble_eq_true rfl, rfl, by decide +kernel⟩ ?_
  show pm_E none _ _ 0 [(0, .ref (pl 203)), (1, .int (iI v_3)), (2, .int (iI v_4))] [] _ _ _ _
  have f_5 := (tyF_t f_4 g_4)
  refine C_y_arrow hW h203 f_5.2.2.2 ⟨by omega, by omega⟩ ⟨by omega, by omega⟩ (fun s_5 a_5 c_5 v_5 g_5 b_5 => ?_)
  have e_5 := g_5.2.2.2
  obtain ⟨⟨_, _, _, _⟩, ⟨_, _, _, _⟩, ⟨_, _⟩, ⟨_, _⟩, ⟨_, _⟩⟩ := e_5
  obtain ⟨_, _⟩ := b_5
  show pm_E _ _ _ 32 [(0, .ref (pl 203)), (1, .int (iI x)), (2, .int (iI y)), (3, .int (iI z)), (4, .int (iI v_2))] [.int (iI v_5), .int (iI v_2), .ref (pl 203)] _ _ _ _
  refine pm_i_callv (k := (pl 203)) (T2 := pm_mm113) pm_a127_32 rfl rfl rfl (cg_203 hW h203) ⟨Nat.le_of_ble_eq_true rfl, Nat.le_of_ble_eq_true rfl, rfl, by decide +kernel⟩ ?_
  show pm_E none _ _ 0 [(0, .ref (pl 203)), (1, .int (iI v_2)), (2, .int (iI v_5))] [] _ _ _ _
  have f_6 := (tyF_t f_5 g_5)
  refine C_y_arrow hW h203 f_6.2.2.2 ⟨by omega, by omega⟩ ⟨by omega, by omega⟩ (fun s_6 a_6 c_6 v_6 g_6 b_6 => ?_)
  have e_6 := g_6.2.2.2
  obtain ⟨⟨_, _, _, _⟩, ⟨_, _, _, _⟩, ⟨_, _⟩, ⟨_, _⟩, ⟨_, _⟩⟩ := e_6
  obtain ⟨_, _⟩ := b_6
  show pm_E _ _ _ 35 [(0, .ref (pl 203)), (1, .int (iI x)), (2, .int (iI y)), (3, .int (iI z)), (4, .int (iI v_2))] [.int (iI v_6)] _ _ _ _
  refine pm_e_ret pm_a127_35 rfl rfl rfl rfl rfl rfl rfl rfl ?_
  exact k _ _ _ _ (tyF_t f_6 g_6) ⟨by omega, by omega⟩
set_option maxHeartbeats 4000000 in
set_option maxRecDepth 100000 in
theorem C_y_typeApply {d n : Nat} {kd pl : Nat → Nat} {s : Nat → Int} {a : Nat → Int → Int} {c : Nat → cdt} {M : List va_E} {Q : Option Value → List va_E → Nat → Nat → Prop} {x : Int} (hW : wf n kd pl) (h203 : al n kd pl 203) (ho : tyO s c) (hx : in32 x) (k : ∀ s' a' c', tyF s a c s' a' c' → Q none (ch n kd pl s' a' c' M) 0 0) : pm_E none (d + 3) pm_mm118 0 [(0, .ref (pl 203)), (1, .int (iI x))] [] (ch n kd pl s a c M) 0 0 Q := by
  obtain ⟨⟨_, _, _, _⟩, ⟨_, _, _, _⟩, ⟨_, _⟩, ⟨_, _⟩, ⟨_, _⟩⟩ := id ho
  have rb4 := rm_b 4
  have rb5 := rm_b 5
  obtain ⟨_, _⟩ := id hx
  refine pm_e_sim pm_a118_0 rfl ?_
  show pm_E _ _ _ 1 [(0, .ref (pl 203)), (1, .int (iI x))] [.ref (pl 203)] _ _ _ _
  refine pm_i_callv (k := (pl 203)) (T2 := pm_mm112) pm_a118_1 rfl rfl rfl (cg_203 hW h203) ⟨Nat.le_of_ble_eq_true rfl, Nat.le_of_ble_eq_true rfl, rfl, by decide +kernel⟩ ?_
  show pm_E none _ _ 0 [(0, .ref (pl 203))] [] _ _ _ _
  have f_1 := (tyF_r (a := a) ho)
  refine C_y_any hW h203 f_1.2.2.2  (fun s_1 a_1 c_1 v_1 g_1 b_1 => ?_)
  have e_1 := g_1.2.2.2
  obtain ⟨⟨_, _, _, _⟩, ⟨_, _, _, _⟩, ⟨_, _⟩, ⟨_, _⟩, ⟨_, _⟩⟩ := e_1
  obtain ⟨_, _⟩ := b_1
  show pm_E _ _ _ 4 [(0, .ref (pl 203)), (1, .int (iI x))] [.int (iI v_1)] _ _ _ _
  refine pm_e_sim pm_a118_4 rfl ?_
  show pm_E _ _ _ 5 [(0, .ref (pl 203)), (1, .int (iI x)), (2, .int (iI v_1))] [] _ _ _ _
  refine pm_e_sim pm_a118_5 rfl ?_
  show pm_E _ _ _ 6 [(0, .ref (pl 203)), (1, .int (iI x)), (2, .int (iI v_1))] [.ref (pl 203)] _ _ _ _
  refine pm_e_sim pm_a118_6 rfl ?_
  show pm_E _ _ _ 7 [(0, .ref (pl 203)), (1, .int (iI x)), (2, .int (iI v_1))] [.int (iI v_1), .ref (pl 203)] _ _ _ _
  refine pm_i_callv (k := (pl 203)) (T2 := pm_mm115) pm_a118_7 rfl rfl rfl (cg_203 hW h203) ⟨Nat.le_of_ble_eq_true rfl, Nat.le_of_ble_eq_true rfl, rfl, by decide +kernel⟩ ?_
  show pm_E none _ _ 0 [(0, .ref (pl 203)), (1, .int (iI v_1))] [] _ _ _ _
  have f_2 := (tyF_t f_1 g_1)
  refine C_y_await hW h203 f_2.2.2.2 ⟨by omega, by omega⟩ (fun s_2 a_2 c_2  g_2  => ?_)
  have e_2 := g_2.2.2.2
  obtain ⟨⟨_, _, _, _⟩, ⟨_, _, _, _⟩, ⟨_, _⟩, ⟨_, _⟩, ⟨_, _⟩⟩ := e_2
  show pm_E _ _ _ 10 [(0, .ref (pl 203)), (1, .int (iI x)), (2, .int (iI v_1))] [] _ _ _ _
  refine pm_e_sim pm_a118_10 rfl ?_
  show pm_E _ _ _ 11 [(0, .ref (pl 203)), (1, .int (iI x)), (2, .int (iI v_1))] [.ref (pl 203)] _ _ _ _
  refine pm_e_sim pm_a118_11 rfl ?_
  show pm_E _ _ _ 12 [(0, .ref (pl 203)), (1, .int (iI x)), (2, .int (iI v_1))] [.ref (pl 203), .ref (pl 203)] _ _ _ _
  refine pm_e_sim pm_a118_12 rfl ?_
  show pm_E _ _ _ 13 [(0, .ref (pl 203)), (1, .int (iI x)), (2, .int (iI v_1))] [.int (iI v_1), .ref (pl 203), .ref (pl 203)] _ _ _ _
  refine pm_e_sim pm_a118_13 rfl ?_
  show pm_E _ _ _ 14 [(0, .ref (pl 203)), (1, .int (iI x)), (2, .int (iI v_1))] [.int (iI x), .int (iI v_1), .ref (pl 203), .ref (pl 203)] _ _ _ _
  refine pm_i_callv (k := (pl 203)) (T2 := pm_mm113) pm_a118_14 rfl rfl rfl (cg_203 hW h203) ⟨Nat.le_of_ble_eq_true rfl, Nat.le_of_ble_eq_true rfl, rfl, by decide +kernel⟩ ?_
  show pm_E none _ _ 0 [(0, .ref (pl 203)), (1, .int (iI v_1)), (2, .int (iI x))] [] _ _ _ _
  have f_3 := (tyF_t f_2 g_2)
  refine C_y_arrow hW h203 f_3.2.2.2 ⟨by omega, by omega⟩ ⟨by omega, by omega⟩ (fun s_3 a_3 c_3 v_3 g_3 b_3 => ?_)
  have e_3 := g_3.2.2.2
  obtain ⟨⟨_, _, _, _⟩, ⟨_, _, _, _⟩, ⟨_, _⟩, ⟨_, _⟩, ⟨_, _⟩⟩ := e_3
  obtain ⟨_, _⟩ := b_3
  show pm_E _ _ _ 17 [(0, .ref (pl 203)), (1, .int (iI x)), (2, .int (iI v_1))] [.int (iI v_3), .ref (pl 203)] _ _ _ _
  refine pm_i_callv (k := (pl 203)) (T2 := pm_mm115) pm_a118_17 rfl rfl rfl (cg_203 hW h203) ⟨Nat.le_of_ble_eq_true rfl, Nat.le_of_ble_eq_true rfl, rfl, by decide +kernel⟩ ?_
  show pm_E none _ _ 0 [(0, .ref (pl 203)), (1, .int (iI v_3))] [] _ _ _ _
  have f_4 := (tyF_t f_3 g_3)
  refine C_y_await hW h203 f_4.2.2.2 ⟨by omega, by omega⟩ (fun s_4 a_4 c_4  g_4  => ?_)
  have e_4 := g_4.2.2.2
  obtain ⟨⟨_, _, _, _⟩, ⟨_, _, _, _⟩, ⟨_, _⟩, ⟨_, _⟩, ⟨_, _⟩⟩ := e_4
  show pm_E _ _ _ 20 [(0, .ref (pl 203)), (1, .int (iI x)), (2, .int (iI v_1))] [] _ _ _ _
  refine pm_e_ret pm_a118_20 rfl rfl rfl rfl rfl rfl rfl rfl ?_
  exact k _ _ _ (tyF_t f_4 g_4)
set_option maxHeartbeats 4000000 in
set_option maxRecDepth 100000 in
theorem C_y_typeOfLambda {d n : Nat} {kd pl : Nat → Nat} {s : Nat → Int} {a : Nat → Int → Int} {c : Nat → cdt} {M : List va_E} {Q : Option Value → List va_E → Nat → Nat → Prop} {x : Int} (hW : wf n kd pl) (h203 : al n kd pl 203) (ho : tyO s c) (hx : in32 x) (k : ∀ s' a' c' r, tyF s a c s' a' c' → in32 r → Q (some (.int (iI r))) (ch n kd pl s' a' c' M) 0 0) : pm_E none (d + 3) pm_mm119 0 [(0, .ref (pl 203)), (1, .int (iI x))] [] (ch n kd pl s a c M) 0 0 Q := by
  obtain ⟨⟨_, _, _, _⟩, ⟨_, _, _, _⟩, ⟨_, _⟩, ⟨_, _⟩, ⟨_, _⟩⟩ := id ho
  have rb4 := rm_b 4
  have rb5 := rm_b 5
  obtain ⟨_, _⟩ := id hx
  refine pm_e_sim pm_a119_0 rfl ?_
  show pm_E _ _ _ 1 [(0, .ref (pl 203)), (1, .int (iI x))] [.ref (pl 203)] _ _ _ _
  refine pm_i_callv (k := (pl 203)) (T2 := pm_mm112) pm_a119_1 rfl rfl rfl (cg_203 hW h203) ⟨Nat.le_of_ble_eq_true rfl, Nat.le_of_ble_eq_true rfl, rfl, by decide +kernel⟩ ?_
  show pm_E none _ _ 0 [(0, .ref (pl 203))] [] _ _ _ _
  have f_1 := (tyF_r (a := a) ho)
  refine C_y_any hW h203 f_1.2.2.2  (fun s_1 a_1 c_1 v_1 g_1 b_1 => ?_)
  have e_1 := g_1.2.2.2
  obtain ⟨⟨_, _, _, _⟩, ⟨_, _, _, _⟩, ⟨_, _⟩, ⟨_, _⟩, ⟨_, _⟩⟩ := e_1
  obtain ⟨_, _⟩ := b_1
  show pm_E _ _ _ 4 [(0, .ref (pl 203)), (1, .int (iI x))] [.int (iI v_1)] _ _ _ _
  refine pm_e_sim pm_a119_4 rfl ?_
  show pm_E _ _ _ 5 [(0, .ref (pl 203)), (1, .int (iI x)), (2, .int (iI v_1))] [] _ _ _ _
  refine pm_e_sim pm_a119_5 rfl ?_
  show pm_E _ _ _ 6 [(0, .ref (pl 203)), (1, .int (iI x)), (2, .int (iI v_1))] [.ref (pl 203)] _ _ _ _
  refine pm_i_callv (k := (pl 203)) (T2 := pm_mm112) pm_a119_6 rfl rfl rfl (cg_203 hW h203) ⟨Nat.le_of_ble_eq_true rfl, Nat.le_of_ble_eq_true rfl, rfl, by decide +kernel⟩ ?_
  show pm_E none _ _ 0 [(0, .ref (pl 203))] [] _ _ _ _
  have f_2 := (tyF_t f_1 g_1)
  refine C_y_any hW h203 f_2.2.2.2  (fun s_2 a_2 c_2 v_2 g_2 b_2 => ?_)
  have e_2 := g_2.2.2.2
  obtain ⟨⟨_, _, _, _⟩, ⟨_, _, _, _⟩, ⟨_, _⟩, ⟨_, _⟩, ⟨_, _⟩⟩ := e_2
  obtain ⟨_, _⟩ := b_2
  show pm_E _ _ _ 9 [(0, .ref (pl 203)), (1, .int (iI x)), (2, .int (iI v_1))] [.int (iI v_2)] _ _ _ _
  refine pm_e_sim pm_a119_9 rfl ?_
  show pm_E _ _ _ 10 [(0, .ref (pl 203)), (1, .int (iI x)), (2, .int (iI v_1)), (3, .int (iI v_2))] [] _ _ _ _
  refine pm_e_sim pm_a119_10 rfl ?_
  show pm_E _ _ _ 11 [(0, .ref (pl 203)), (1, .int (iI x)), (2, .int (iI v_1)), (3, .int (iI v_2))] [.ref (pl 203)] _ _ _ _
  refine pm_i_get pm_a119_11 rfl (cg_203 hW h203) rfl ?_
  show pm_E _ _ _ 14 [(0, .ref (pl 203)), (1, .int (iI x)), (2, .int (iI v_1)), (3, .int (iI v_2))] [.ref (pl 209)] _ _ _ _
  refine pm_e_sim pm_a119_14 rfl ?_
  show pm_E _ _ _ 15 [(0, .ref (pl 203)), (1, .int (iI x)), (2, .int (iI v_1)), (3, .int (iI v_2))] [.int (iI x), .ref (pl 209)] _ _ _ _
  refine pm_e_sim pm_a119_15 rfl ?_
  show pm_E _ _ _ 16 [(0, .ref (pl 203)), (1, .int (iI x)), (2, .int (iI v_1)), (3, .int (iI v_2))] [.int (iI v_1), .int (iI x), .ref (pl 209)] _ _ _ _
  refine pm_e_call (T2 := pm_mm114) pm_a119_16 rfl rfl rfl rfl rfl rfl rfl rfl rfl ?_
  show pm_E none _ _ 0 [(0, .ref (pl 209)), (1, .int (iI x)), (2, .int (iI v_1))] [] _ _ _ _
  have f_3 := (tyF_t f_2 g_2)
  refine C_yset_209 hW h203 ⟨by omega, by omega⟩ (fun a_3 g_3 => ?_)
  show pm_E _ _ _ 19 [(0, .ref (pl 203)), (1, .int (iI x)), (2, .int (iI v_1)), (3, .int (iI v_2))] [] _ _ _ _
  refine pm_e_sim pm_a119_19 rfl ?_
  show pm_E _ _ _ 20 [(0, .ref (pl 203)), (1, .int (iI x)), (2, .int (iI v_1)), (3, .int (iI v_2))] [.ref (pl 203)] _ _ _ _
  refine pm_e_sim pm_a119_20 rfl ?_
  show pm_E _ _ _ 21 [(0, .ref (pl 203)), (1, .int (iI x)), (2, .int (iI v_1)), (3, .int (iI v_2))] [.int (iI v_2), .ref (pl 203)] _ _ _ _
  refine pm_i_callv (k := (pl 203)) (T2 := pm_mm115) pm_a119_21 rfl rfl rfl (cg_203 hW h203) ⟨Nat.le_of_ble_eq_true rfl, Nat.le_of_ble_eq_true rfl, rfl, by decide +kernel⟩ ?_
  show pm_E none _ _ 0 [(0, .ref (pl 203)), (1, .int (iI v_2))] [] _ _ _ _
  have f_4 := (tyF_a f_3 g_3)
  refine C_y_await hW h203 f_4.2.2.2 ⟨by omega, by omega⟩ (fun s_4 a_4 c_4  g_4  => ?_)
  have e_4 := g_4.2.2.2
  obtain ⟨⟨_, _, _, _⟩, ⟨_, _, _, _⟩, ⟨_, _⟩, ⟨_, _⟩, ⟨_, _⟩⟩ := e_4
  show pm_E _ _ _ 24 [(0, .ref (pl 203)), (1, .int (iI x)), (2, .int (iI v_1)), (3, .int (iI v_2))] [] _ _ _ _
  refine pm_e_sim pm_a119_24 rfl ?_
  show pm_E _ _ _ 25 [(0, .ref (pl 203)), (1, .int (iI x)), (2, .int (iI v_1)), (3, .int (iI v_2))] [.ref (pl 203)] _ _ _ _
  refine pm_e_sim pm_a119_25 rfl ?_
  show pm_E _ _ _ 26 [(0, .ref (pl 203)), (1, .int (iI x)), (2, .int (iI v_1)), (3, .int (iI v_2))] [.int (iI v_1), .ref (pl 203)] _ _ _ _
  refine pm_e_sim pm_a119_26 rfl ?_
  show pm_E _ _ _ 27 [(0, .ref (pl 203)), (1, .int (iI x)), (2, .int (iI v_1)), (3, .int (iI v_2))] [.int (iI v_2), .int (iI v_1), .ref (pl 203)] _ _ _ _
  refine pm_i_callv (k := (pl 203)) (T2 := pm_mm113) pm_a119_27 rfl rfl rfl (cg_203 hW h203) ⟨Nat.le_of_ble_eq_true rfl, Nat.le_of_ble_eq_true rfl, rfl, by decide +kernel⟩ ?_
  show pm_E none _ _ 0 [(0, .ref (pl 203)), (1, .int (iI v_1)), (2, .int (iI v_2))] [] _ _ _ _
  have f_5 := (tyF_t f_4 g_4)
  refine C_y_arrow hW h203 f_5.2.2.2 ⟨by omega, by omega⟩ ⟨by omega, by omega⟩ (fun s_5 a_5 c_5 v_5 g_5 b_5 => ?_)
  have e_5 := g_5.2.2.2
  obtain ⟨⟨_, _, _, _⟩, ⟨_, _, _, _⟩, ⟨_, _⟩, ⟨_, _⟩, ⟨_, _⟩⟩ := e_5
  obtain ⟨_, _⟩ := b_5
  show pm_E _ _ _ 30 [(0, .ref (pl 203)), (1, .int (iI x)), (2, .int (iI v_1)), (3, .int (iI v_2))] [.int (iI v_5)] _ _ _ _
  refine pm_e_ret pm_a119_30 rfl rfl rfl rfl rfl rfl rfl rfl ?_
  exact k _ _ _ _ (tyF_t f_5 g_5) ⟨by omega, by omega⟩
set_option maxHeartbeats 4000000 in
set_option maxRecDepth 100000 in
theorem C_y_typeOfLetter {d n : Nat} {kd pl : Nat → Nat} {s : Nat → Int} {a : Nat → Int → Int} {c : Nat → cdt} {M : List va_E} {Q : Option Value → List va_E → Nat → Nat → Prop} {x : Int} (hW : wf n kd pl) (h203 : al n kd pl 203) (ho : tyO s c) (hx : in32 x) (k : ∀ s' a' c' r, tyF s a c s' a' c' → in32 r → Q (some (.int (iI r))) (ch n kd pl s' a' c' M) 0 0) : pm_E none (d + 3) pm_mm126 0 [(0, .ref (pl 203)), (1, .int (iI x))] [] (ch n kd pl s a c M) 0 0 Q := by
  obtain ⟨⟨_, _, _, _⟩, ⟨_, _, _, _⟩, ⟨_, _⟩, ⟨_, _⟩, ⟨_, _⟩⟩ := id ho
  have rb4 := rm_b 4
  have rb5 := rm_b 5
  obtain ⟨_, _⟩ := id hx
  refine pm_e_sim pm_a126_0 rfl ?_
  show pm_E _ _ _ 1 [(0, .ref (pl 203)), (1, .int (iI x))] [.int (iI x)] _ _ _ _
  by_cases h_1 : x = 2
  · skip
    refine pm_e_top (y := iI 2) (congrArg iI h_1) ?_
    refine pm_e_tsi (t := 32) pm_a126_1 rfl rfl ?_
    show pm_E _ _ _ 32 [(0, .ref (pl 203)), (1, .int (iI x))] [] _ _ _ _
    refine pm_e_sim pm_a126_32 rfl ?_
    show pm_E _ _ _ 33 [(0, .ref (pl 203)), (1, .int (iI x))] [.ref (pl 203)] _ _ _ _
    refine pm_e_sim pm_a126_33 rfl ?_
    show pm_E _ _ _ 34 [(0, .ref (pl 203)), (1, .int (iI x))] [.ref (pl 203), .ref (pl 203)] _ _ _ _
    refine pm_i_callv (k := (pl 203)) (T2 := pm_mm112) pm_a126_34 rfl rfl rfl (cg_203 hW h203) ⟨Nat.le_of_ble_eq_true rfl, Nat.le_of_ble_eq_true rfl, rfl, by decide +kernel⟩ ?_
    show pm_E none _ _ 0 [(0, .ref (pl 203))] [] _ _ _ _
    have f_2 := (tyF_r (a := a) ho)
    refine C_y_any hW h203 f_2.2.2.2  (fun s_2 a_2 c_2 v_2 g_2 b_2 => ?_)
    have e_2 := g_2.2.2.2
    obtain ⟨⟨_, _, _, _⟩, ⟨_, _, _, _⟩, ⟨_, _⟩, ⟨_, _⟩, ⟨_, _⟩⟩ := e_2
    obtain ⟨_, _⟩ := b_2
    show pm_E _ _ _ 37 [(0, .ref (pl 203)), (1, .int (iI x))] [.int (iI v_2), .ref (pl 203)] _ _ _ _
    refine pm_e_sim pm_a126_37 rfl ?_
    show pm_E _ _ _ 38 [(0, .ref (pl 203)), (1, .int (iI x))] [.ref (pl 203), .int (iI v_2), .ref (pl 203)] _ _ _ _
    refine pm_i_callv (k := (pl 203)) (T2 := pm_mm112) pm_a126_38 rfl rfl rfl (cg_203 hW h203) ⟨Nat.le_of_ble_eq_true rfl, Nat.le_of_ble_eq_true rfl, rfl, by decide +kernel⟩ ?_
    show pm_E none _ _ 0 [(0, .ref (pl 203))] [] _ _ _ _
    have f_3 := (tyF_t f_2 g_2)
    refine C_y_any hW h203 f_3.2.2.2  (fun s_3 a_3 c_3 v_3 g_3 b_3 => ?_)
    have e_3 := g_3.2.2.2
    obtain ⟨⟨_, _, _, _⟩, ⟨_, _, _, _⟩, ⟨_, _⟩, ⟨_, _⟩, ⟨_, _⟩⟩ := e_3
    obtain ⟨_, _⟩ := b_3
    show pm_E _ _ _ 41 [(0, .ref (pl 203)), (1, .int (iI x))] [.int (iI v_3), .int (iI v_2), .ref (pl 203)] _ _ _ _
    refine pm_e_sim pm_a126_41 rfl ?_
    show pm_E _ _ _ 42 [(0, .ref (pl 203)), (1, .int (iI x))] [.ref (pl 203), .int (iI v_3), .int (iI v_2), .ref (pl 203)] _ _ _ _
    refine pm_i_callv (k := (pl 203)) (T2 := pm_mm112) pm_a126_42 rfl rfl rfl (cg_203 hW h203) ⟨Nat.le_of_ble_eq_true rfl, Nat.le_of_ble_eq_true rfl, rfl, by decide +kernel⟩ ?_
    show pm_E none _ _ 0 [(0, .ref (pl 203))] [] _ _ _ _
    have f_4 := (tyF_t f_3 g_3)
    refine C_y_any hW h203 f_4.2.2.2  (fun s_4 a_4 c_4 v_4 g_4 b_4 => ?_)
    have e_4 := g_4.2.2.2
    obtain ⟨⟨_, _, _, _⟩, ⟨_, _, _, _⟩, ⟨_, _⟩, ⟨_, _⟩, ⟨_, _⟩⟩ := e_4
    obtain ⟨_, _⟩ := b_4
    show pm_E _ _ _ 45 [(0, .ref (pl 203)), (1, .int (iI x))] [.int (iI v_4), .int (iI v_3), .int (iI v_2), .ref (pl 203)] _ _ _ _
    refine pm_i_callv (k := (pl 203)) (T2 := pm_mm127) pm_a126_45 rfl rfl rfl (cg_203 hW h203) ⟨Nat.le_of_ble_eq_true rfl, Nat.le_of_ble_eq_true rfl, rfl, by decide +kernel⟩ ?_
    show pm_E none _ _ 0 [(0, .ref (pl 203)), (1, .int (iI v_2)), (2, .int (iI v_3)), (3, .int (iI v_4))] [] _ _ _ _
    have f_5 := (tyF_t f_4 g_4)
    refine C_y_typeOfS hW h203 f_5.2.2.2 ⟨by omega, by omega⟩ ⟨by omega, by omega⟩ ⟨by omega, by omega⟩ (fun s_5 a_5 c_5 v_5 g_5 b_5 => ?_)
    have e_5 := g_5.2.2.2
    obtain ⟨⟨_, _, _, _⟩, ⟨_, _, _, _⟩, ⟨_, _⟩, ⟨_, _⟩, ⟨_, _⟩⟩ := e_5
    obtain ⟨_, _⟩ := b_5
    show pm_E _ _ _ 48 [(0, .ref (pl 203)), (1, .int (iI x))] [.int (iI v_5)] _ _ _ _
    refine pm_e_ret pm_a126_48 rfl rfl rfl rfl rfl rfl rfl rfl ?_
    exact k _ _ _ _ (tyF_t f_5 g_5) ⟨by omega, by omega⟩
  by_cases h_6 : x = 3
  · skip
    refine pm_e_top (y := iI 3) (congrArg iI h_6) ?_
    refine pm_e_tsi (t := 49) pm_a126_1 rfl rfl ?_
    show pm_E _ _ _ 49 [(0, .ref (pl 203)), (1, .int (iI x))] [] _ _ _ _
    refine pm_e_sim pm_a126_49 rfl ?_
    show pm_E _ _ _ 50 [(0, .ref (pl 203)), (1, .int (iI x))] [.ref (pl 203)] _ _ _ _
    refine pm_e_sim pm_a126_50 rfl ?_
    show pm_E _ _ _ 51 [(0, .ref (pl 203)), (1, .int (iI x))] [.ref (pl 203), .ref (pl 203)] _ _ _ _
    refine pm_i_callv (k := (pl 203)) (T2 := pm_mm112) pm_a126_51 rfl rfl rfl (cg_203 hW h203) ⟨Nat.le_of_ble_eq_true rfl, Nat.le_of_ble_eq_true rfl, rfl, by decide +kernel⟩ ?_
    show pm_E none _ _ 0 [(0, .ref (pl 203))] [] _ _ _ _
    have f_7 := (tyF_r (a := a) ho)
    refine C_y_any hW h203 f_7.2.2.2  (fun s_7 a_7 c_7 v_7 g_7 b_7 => ?_)
    have e_7 := g_7.2.2.2
    obtain ⟨⟨_, _, _, _⟩, ⟨_, _, _, _⟩, ⟨_, _⟩, ⟨_, _⟩, ⟨_, _⟩⟩ := e_7
    obtain ⟨_, _⟩ := b_7
    show pm_E _ _ _ 54 [(0, .ref (pl 203)), (1, .int (iI x))] [.int (iI v_7), .ref (pl 203)] _ _ _ _
    refine pm_e_sim pm_a126_54 rfl ?_
    show pm_E _ _ _ 55 [(0, .ref (pl 203)), (1, .int (iI x))] [.ref (pl 203), .int (iI v_7), .ref (pl 203)] _ _ _ _
    refine pm_i_callv (k := (pl 203)) (T2 := pm_mm112) pm_a126_55 rfl rfl rfl (cg_203 hW h203) ⟨Nat.le_of_ble_eq_true rfl, Nat.le_of_ble_eq_true rfl, rfl, by decide +kernel⟩ ?_
    show pm_E none _ _ 0 [(0, .ref (pl 203))] [] _ _ _ _
    have f_8 := (tyF_t f_7 g_7)
    refine C_y_any hW h203 f_8.2.2.2  (fun s_8 a_8 c_8 v_8 g_8 b_8 => ?_)
    have e_8 := g_8.2.2.2
    obtain ⟨⟨_, _, _, _⟩, ⟨_, _, _, _⟩, ⟨_, _⟩, ⟨_, _⟩, ⟨_, _⟩⟩ := e_8
    obtain ⟨_, _⟩ := b_8
    show pm_E _ _ _ 58 [(0, .ref (pl 203)), (1, .int (iI x))] [.int (iI v_8), .int (iI v_7), .ref (pl 203)] _ _ _ _
    refine pm_i_callv (k := (pl 203)) (T2 := pm_mm128) pm_a126_58 rfl rfl rfl (cg_203 hW h203) ⟨Nat.le_of_ble_eq_true rfl, Nat.le_of_ble_eq_true rfl, rfl, by decide +kernel⟩ ?_
    show pm_E none _ _ 0 [(0, .ref (pl 203)), (1, .int (iI v_7)), (2, .int (iI v_8))] [] _ _ _ _
    have f_9 := (tyF_t f_8 g_8)
    refine C_y_typeOfK hW h203 f_9.2.2.2 ⟨by omega, by omega⟩ ⟨by omega, by omega⟩ (fun s_9 a_9 c_9 v_9 g_9 b_9 => ?_)
    have e_9 := g_9.2.2.2
    obtain ⟨⟨_, _, _, _⟩, ⟨_, _, _, _⟩, ⟨_, _⟩, ⟨_, _⟩, ⟨_, _⟩⟩ := e_9
    obtain ⟨_, _⟩ := b_9
    show pm_E _ _ _ 61 [(0, .ref (pl 203)), (1, .int (iI x))] [.int (iI v_9)] _ _ _ _
    refine pm_e_ret pm_a126_61 rfl rfl rfl rfl rfl rfl rfl rfl ?_
    exact k _ _ _ _ (tyF_t f_9 g_9) ⟨by omega, by omega⟩
  by_cases h_10 : x = 4
  · skip
    refine pm_e_top (y := iI 4) (congrArg iI h_10) ?_
    refine pm_e_tsi (t := 62) pm_a126_1 rfl rfl ?_
    show pm_E _ _ _ 62 [(0, .ref (pl 203)), (1, .int (iI x))] [] _ _ _ _
    refine pm_e_sim pm_a126_62 rfl ?_
    show pm_E _ _ _ 63 [(0, .ref (pl 203)), (1, .int (iI x))] [.ref (pl 203)] _ _ _ _
    refine pm_e_sim pm_a126_63 rfl ?_
    show pm_E _ _ _ 64 [(0, .ref (pl 203)), (1, .int (iI x))] [.ref (pl 203), .ref (pl 203)] _ _ _ _
    refine pm_i_callv (k := (pl 203)) (T2 := pm_mm112) pm_a126_64 rfl rfl rfl (cg_203 hW h203) ⟨Nat.le_of_ble_eq_true rfl, Nat.le_of_ble_eq_true rfl, rfl, by decide +kernel⟩ ?_
    show pm_E none _ _ 0 [(0, .ref (pl 203))] [] _ _ _ _
    have f_11 := (tyF_r (a := a) ho)
    refine C_y_any hW h203 f_11.2.2.2  (fun s_11 a_11 c_11 v_11 g_11 b_11 => ?_)
    have e_11 := g_11.2.2.2
    obtain ⟨⟨_, _, _, _⟩, ⟨_, _, _, _⟩, ⟨_, _⟩, ⟨_, _⟩, ⟨_, _⟩⟩ := e_11
    obtain ⟨_, _⟩ := b_11
    show pm_E _ _ _ 67 [(0, .ref (pl 203)), (1, .int (iI x))] [.int (iI v_11), .ref (pl 203)] _ _ _ _
    refine pm_i_callv (k := (pl 203)) (T2 := pm_mm129) pm_a126_67 rfl rfl rfl (cg_203 hW h203) ⟨Nat.le_of_ble_eq_true rfl, Nat.le_of_ble_eq_true rfl, rfl, by decide +kernel⟩ ?_
    show pm_E none _ _ 0 [(0, .ref (pl 203)), (1, .int (iI v_11))] [] _ _ _ _
    have f_12 := (tyF_t f_11 g_11)
    refine C_y_typeOfI hW h203 f_12.2.2.2 ⟨by omega, by omega⟩ (fun s_12 a_12 c_12 v_12 g_12 b_12 => ?_)
    have e_12 := g_12.2.2.2
    obtain ⟨⟨_, _, _, _⟩, ⟨_, _, _, _⟩, ⟨_, _⟩, ⟨_, _⟩, ⟨_, _⟩⟩ := e_12
    obtain ⟨_, _⟩ := b_12
    show pm_E _ _ _ 70 [(0, .ref (pl 203)), (1, .int (iI x))] [.int (iI v_12)] _ _ _ _
    refine pm_e_ret pm_a126_70 rfl rfl rfl rfl rfl rfl rfl rfl ?_
    exact k _ _ _ _ (tyF_t f_12 g_12) ⟨by omega, by omega⟩
  by_cases h_13 : x = 5
  · skip
    refine pm_e_top (y := iI 5) (congrArg iI h_13) ?_
    refine pm_e_tsi (t := 71) pm_a126_1 rfl rfl ?_
    show pm_E _ _ _ 71 [(0, .ref (pl 203)), (1, .int (iI x))] [] _ _ _ _
    refine pm_e_sim pm_a126_71 rfl ?_
    show pm_E _ _ _ 72 [(0, .ref (pl 203)), (1, .int (iI x))] [.ref (pl 203)] _ _ _ _
    refine pm_e_sim pm_a126_72 rfl ?_
    show pm_E _ _ _ 73 [(0, .ref (pl 203)), (1, .int (iI x))] [.ref (pl 203), .ref (pl 203)] _ _ _ _
    refine pm_i_get pm_a126_73 rfl (cg_203 hW h203) rfl ?_
    show pm_E _ _ _ 76 [(0, .ref (pl 203)), (1, .int (iI x))] [.int (iI (s 22)), .ref (pl 203)] _ _ _ _
    refine pm_i_callv (k := (pl 203)) (T2 := pm_mm129) pm_a126_76 rfl rfl rfl (cg_203 hW h203) ⟨Nat.le_of_ble_eq_true rfl, Nat.le_of_ble_eq_true rfl, rfl, by decide +kernel⟩ ?_
    show pm_E none _ _ 0 [(0, .ref (pl 203)), (1, .int (iI (s 22)))] [] _ _ _ _
    have f_14 := (tyF_r (a := a) ho)
    refine C_y_typeOfI hW h203 f_14.2.2.2 ⟨by omega, by omega⟩ (fun s_14 a_14 c_14 v_14 g_14 b_14 => ?_)
    have e_14 := g_14.2.2.2
    obtain ⟨⟨_, _, _, _⟩, ⟨_, _, _, _⟩, ⟨_, _⟩, ⟨_, _⟩, ⟨_, _⟩⟩ := e_14
    obtain ⟨_, _⟩ := b_14
    show pm_E _ _ _ 79 [(0, .ref (pl 203)), (1, .int (iI x))] [.int (iI v_14)] _ _ _ _
    refine pm_e_ret pm_a126_79 rfl rfl rfl rfl rfl rfl rfl rfl ?_
    exact k _ _ _ _ (tyF_t f_14 g_14) ⟨by omega, by omega⟩
  refine pm_e_tso (t := 80) pm_a126_1 (by rw [iI_t ⟨by omega, by omega⟩]; omega) rfl ?_
  show pm_E _ _ _ 80 [(0, .ref (pl 203)), (1, .int (iI x))] [] _ _ _ _
  refine pm_e_sim pm_a126_80 rfl ?_
  show pm_E _ _ _ 81 [(0, .ref (pl 203)), (1, .int (iI x))] [.ref (pl 203)] _ _ _ _
  refine pm_i_get pm_a126_81 rfl (cg_203 hW h203) rfl ?_
  show pm_E _ _ _ 84 [(0, .ref (pl 203)), (1, .int (iI x))] [.int (iI (s 22))] _ _ _ _
  refine pm_e_ret pm_a126_84 rfl rfl rfl rfl rfl rfl rfl rfl ?_
  exact k _ _ _ _ (tyF_r (a := a) ho) ⟨by omega, by omega⟩
set_option maxHeartbeats 4000000 in
set_option maxRecDepth 100000 in
theorem C_y_join {d n : Nat} {kd pl : Nat → Nat} {s : Nat → Int} {a : Nat → Int → Int} {c : Nat → cdt} {M : List va_E} {Q : Option Value → List va_E → Nat → Nat → Prop} {x y z : Int} (hW : wf n kd pl) (h203 : al n kd pl 203) (ho : tyO s c) (hx : in32 x) (hy : in32 y) (hz : in32 z) (k : ∀ s' a' c' r, tyF s a c s' a' c' → in32 r → Q (some (.int (iI r))) (ch n kd pl s' a' c' M) 0 0) : pm_E none (d + 2) pm_mm121 0 [(0, .ref (pl 203)), (1, .int (iI x)), (2, .int (iI y)), (3, .int (iI z))] [] (ch n kd pl s a c M) 0 0 Q := by
  obtain ⟨⟨_, _, _, _⟩, ⟨_, _, _, _⟩, ⟨_, _⟩, ⟨_, _⟩, ⟨_, _⟩⟩ := id ho
  have rb4 := rm_b 4
  have rb5 := rm_b 5
  obtain ⟨_, _⟩ := id hx
  obtain ⟨_, _⟩ := id hy
  obtain ⟨_, _⟩ := id hz
  refine pm_e_sim pm_a121_0 rfl ?_
  show pm_E _ _ _ 1 [(0, .ref (pl 203)), (1, .int (iI x)), (2, .int (iI y)), (3, .int (iI z))] [.ref (pl 203)] _ _ _ _
  refine pm_e_sim pm_a121_1 rfl ?_
  show pm_E _ _ _ 2 [(0, .ref (pl 203)), (1, .int (iI x)), (2, .int (iI y)), (3, .int (iI z))] [.int (iI x), .ref (pl 203)] _ _ _ _
  refine pm_i_callv (k := (pl 203)) (T2 := pm_mm122) pm_a121_2 rfl rfl rfl (cg_203 hW h203) ⟨Nat.le_of_ble_eq_true rfl, Nat.le_of_ble_eq_true rfl, rfl, by decide +kernel⟩ ?_
  show pm_E none _ _ 0 [(0, .ref (pl 203)), (1, .int (iI x))] [] _ _ _ _
  have f_1 := (tyF_r (a := a) ho)
  refine C_y_rootOf hW h203 f_1.2.2.2 ⟨by omega, by omega⟩ (fun s_1 a_1 c_1 v_1 g_1 b_1 => ?_)
  have e_1 := g_1.2.2.2
  obtain ⟨⟨_, _, _, _⟩, ⟨_, _, _, _⟩, ⟨_, _⟩, ⟨_, _⟩, ⟨_, _⟩⟩ := e_1
  obtain ⟨_, _⟩ := b_1
  show pm_E _ _ _ 5 [(0, .ref (pl 203)), (1, .int (iI x)), (2, .int (iI y)), (3, .int (iI z))] [.int (iI v_1)] _ _ _ _
  refine pm_e_sim pm_a121_5 rfl ?_
  show pm_E _ _ _ 7 [(0, .ref (pl 203)), (1, .int (iI x)), (2, .int (iI y)), (3, .int (iI z)), (4, .int (iI v_1))] [] _ _ _ _
  refine pm_e_sim pm_a121_7 rfl ?_
  show pm_E _ _ _ 8 [(0, .ref (pl 203)), (1, .int (iI x)), (2, .int (iI y)), (3, .int (iI z)), (4, .int (iI v_1))] [.ref (pl 203)] _ _ _ _
  refine pm_e_sim pm_a121_8 rfl ?_
  show pm_E _ _ _ 9 [(0, .ref (pl 203)), (1, .int (iI x)), (2, .int (iI y)), (3, .int (iI z)), (4, .int (iI v_1))] [.int (iI y), .ref (pl 203)] _ _ _ _
  refine pm_i_callv (k := (pl 203)) (T2 := pm_mm122) pm_a121_9 rfl rfl rfl (cg_203 hW h203) ⟨Nat.le_of_ble_eq_true rfl, Nat.le_of_ble_eq_true rfl, rfl, by decide +kernel⟩ ?_
  show pm_E none _ _ 0 [(0, .ref (pl 203)), (1, .int (iI y))] [] _ _ _ _
  have f_2 := (tyF_t f_1 g_1)
  refine C_y_rootOf hW h203 f_2.2.2.2 ⟨by omega, by omega⟩ (fun s_2 a_2 c_2 v_2 g_2 b_2 => ?_)
  have e_2 := g_2.2.2.2
  obtain ⟨⟨_, _, _, _⟩, ⟨_, _, _, _⟩, ⟨_, _⟩, ⟨_, _⟩, ⟨_, _⟩⟩ := e_2
  obtain ⟨_, _⟩ := b_2
  show pm_E _ _ _ 12 [(0, .ref (pl 203)), (1, .int (iI x)), (2, .int (iI y)), (3, .int (iI z)), (4, .int (iI v_1))] [.int (iI v_2)] _ _ _ _
  refine pm_e_sim pm_a121_12 rfl ?_
  show pm_E _ _ _ 14 [(0, .ref (pl 203)), (1, .int (iI x)), (2, .int (iI y)), (3, .int (iI z)), (4, .int (iI v_1)), (5, .int (iI v_2))] [] _ _ _ _
  refine pm_e_sim pm_a121_14 rfl ?_
  show pm_E _ _ _ 16 [(0, .ref (pl 203)), (1, .int (iI x)), (2, .int (iI y)), (3, .int (iI z)), (4, .int (iI v_1)), (5, .int (iI v_2))] [.int (iI v_1)] _ _ _ _
  refine pm_e_sim pm_a121_16 rfl ?_
  show pm_E _ _ _ 18 [(0, .ref (pl 203)), (1, .int (iI x)), (2, .int (iI y)), (3, .int (iI z)), (4, .int (iI v_1)), (5, .int (iI v_2))] [.int (iI v_2), .int (iI v_1)] _ _ _ _
  refine pm_c_ne (t := 23) pm_a121_18 rfl ⟨by omega, by omega⟩ ⟨by omega, by omega⟩ (fun h_3 => ?_) (fun h_3 => ?_)
  · skip
    show pm_E _ _ _ 23 [(0, .ref (pl 203)), (1, .int (iI x)), (2, .int (iI y)), (3, .int (iI z)), (4, .int (iI v_1)), (5, .int (iI v_2))] [] _ _ _ _
    refine pm_e_sim pm_a121_23 rfl ?_
    show pm_E _ _ _ 24 [(0, .ref (pl 203)), (1, .int (iI x)), (2, .int (iI y)), (3, .int (iI z)), (4, .int (iI v_1)), (5, .int (iI v_2))] [.ref (pl 203)] _ _ _ _
    refine pm_e_sim pm_a121_24 rfl ?_
    show pm_E _ _ _ 26 [(0, .ref (pl 203)), (1, .int (iI x)), (2, .int (iI y)), (3, .int (iI z)), (4, .int (iI v_1)), (5, .int (iI v_2))] [.int (iI v_1), .ref (pl 203)] _ _ _ _
    refine pm_i_callv (k := (pl 203)) (T2 := pm_mm124) pm_a121_26 rfl rfl rfl (cg_203 hW h203) ⟨Nat.le_of_ble_eq_true rfl, Nat.le_of_ble_eq_true rfl, rfl, by decide +kernel⟩ ?_
    show pm_E none _ _ 0 [(0, .ref (pl 203)), (1, .int (iI v_1))] [] _ _ _ _
    refine C_y_isArrow hW h203 ⟨by omega, by omega⟩ ?_ ?_
    · skip
      show pm_E _ _ _ 29 [(0, .ref (pl 203)), (1, .int (iI x)), (2, .int (iI y)), (3, .int (iI z)), (4, .int (iI v_1)), (5, .int (iI v_2))] [.int (iI 1)] _ _ _ _
      refine pm_e_iff pm_a121_29 rfl (by decide +kernel) ?_
      show pm_E _ _ _ 32 [(0, .ref (pl 203)), (1, .int (iI x)), (2, .int (iI y)), (3, .int (iI z)), (4, .int (iI v_1)), (5, .int (iI v_2))] [] _ _ _ _
      refine pm_e_sim pm_a121_32 rfl ?_
      show pm_E _ _ _ 33 [(0, .ref (pl 203)), (1, .int (iI x)), (2, .int (iI y)), (3, .int (iI z)), (4, .int (iI v_1)), (5, .int (iI v_2))] [.ref (pl 203)] _ _ _ _
      refine pm_e_sim pm_a121_33 rfl ?_
      show pm_E _ _ _ 35 [(0, .ref (pl 203)), (1, .int (iI x)), (2, .int (iI y)), (3, .int (iI z)), (4, .int (iI v_1)), (5, .int (iI v_2))] [.int (iI v_2), .ref (pl 203)] _ _ _ _
      refine pm_i_callv (k := (pl 203)) (T2 := pm_mm124) pm_a121_35 rfl rfl rfl (cg_203 hW h203) ⟨Nat.le_of_ble_eq_true rfl, Nat.le_of_ble_eq_true rfl, rfl, by decide +kernel⟩ ?_
      show pm_E none _ _ 0 [(0, .ref (pl 203)), (1, .int (iI v_2))] [] _ _ _ _
      refine C_y_isArrow hW h203 ⟨by omega, by omega⟩ ?_ ?_
      · skip
        show pm_E _ _ _ 38 [(0, .ref (pl 203)), (1, .int (iI x)), (2, .int (iI y)), (3, .int (iI z)), (4, .int (iI v_1)), (5, .int (iI v_2))] [.int (iI 1)] _ _ _ _
        refine pm_e_iff pm_a121_38 rfl (by decide +kernel) ?_
        show pm_E _ _ _ 41 [(0, .ref (pl 203)), (1, .int (iI x)), (2, .int (iI y)), (3, .int (iI z)), (4, .int (iI v_1)), (5, .int (iI v_2))] [] _ _ _ _
        refine pm_e_sim pm_a121_41 rfl ?_
        show pm_E _ _ _ 42 [(0, .ref (pl 203)), (1, .int (iI x)), (2, .int (iI y)), (3, .int (iI z)), (4, .int (iI v_1)), (5, .int (iI v_2))] [.ref (pl 203)] _ _ _ _
        refine pm_i_get pm_a121_42 rfl (cg_203 hW h203) rfl ?_
        show pm_E _ _ _ 45 [(0, .ref (pl 203)), (1, .int (iI x)), (2, .int (iI y)), (3, .int (iI z)), (4, .int (iI v_1)), (5, .int (iI v_2))] [.ref (pl 206)] _ _ _ _
        refine pm_e_sim pm_a121_45 rfl ?_
        show pm_E _ _ _ 47 [(0, .ref (pl 203)), (1, .int (iI x)), (2, .int (iI y)), (3, .int (iI z)), (4, .int (iI v_1)), (5, .int (iI v_2))] [.int (iI v_1), .ref (pl 206)] _ _ _ _
        refine pm_e_sim pm_a121_47 rfl ?_
        show pm_E _ _ _ 49 [(0, .ref (pl 203)), (1, .int (iI x)), (2, .int (iI y)), (3, .int (iI z)), (4, .int (iI v_1)), (5, .int (iI v_2))] [.int (iI v_2), .int (iI v_1), .ref (pl 206)] _ _ _ _
        refine pm_e_call (T2 := pm_mm114) pm_a121_49 rfl rfl rfl rfl rfl rfl rfl rfl rfl ?_
        show pm_E none _ _ 0 [(0, .ref (pl 206)), (1, .int (iI v_1)), (2, .int (iI v_2))] [] _ _ _ _
        have f_4 := (tyF_t f_2 g_2)
        refine C_yset_206 hW h203 ⟨by omega, by omega⟩ (fun a_4 g_4 => ?_)
        show pm_E _ _ _ 52 [(0, .ref (pl 203)), (1, .int (iI x)), (2, .int (iI y)), (3, .int (iI z)), (4, .int (iI v_1)), (5, .int (iI v_2))] [] _ _ _ _
        refine pm_e_sim pm_a121_52 rfl ?_
        show pm_E _ _ _ 53 [(0, .ref (pl 203)), (1, .int (iI x)), (2, .int (iI y)), (3, .int (iI z)), (4, .int (iI v_1)), (5, .int (iI v_2))] [.ref (pl 203)] _ _ _ _
        refine pm_e_sim pm_a121_53 rfl ?_
        show pm_E _ _ _ 55 [(0, .ref (pl 203)), (1, .int (iI x)), (2, .int (iI y)), (3, .int (iI z)), (4, .int (iI v_1)), (5, .int (iI v_2))] [.int (iI v_1), .ref (pl 203)] _ _ _ _
        refine pm_e_sim pm_a121_55 rfl ?_
        show pm_E _ _ _ 56 [(0, .ref (pl 203)), (1, .int (iI x)), (2, .int (iI y)), (3, .int (iI z)), (4, .int (iI v_1)), (5, .int (iI v_2))] [.int (iI z), .int (iI v_1), .ref (pl 203)] _ _ _ _
        refine pm_i_callv (k := (pl 203)) (T2 := pm_mm125) pm_a121_56 rfl rfl rfl (cg_203 hW h203) ⟨Nat.le_of_ble_eq_true rfl, Nat.le_of_ble_eq_true rfl, rfl, by decide +kernel⟩ ?_
        show pm_E none _ _ 0 [(0, .ref (pl 203)), (1, .int (iI v_1)), (2, .int (iI z))] [] _ _ _ _
        have f_5 := (tyF_a f_4 g_4)
        refine C_y_enqueue hW h203 f_5.2.2.2 ⟨by omega, by omega⟩ ⟨by omega, by omega⟩ (fun s_5 a_5 c_5 v_5 g_5 b_5 => ?_)
        have e_5 := g_5.2.2.2
        obtain ⟨⟨_, _, _, _⟩, ⟨_, _, _, _⟩, ⟨_, _⟩, ⟨_, _⟩, ⟨_, _⟩⟩ := e_5
        obtain ⟨_, _⟩ := b_5
        show pm_E _ _ _ 59 [(0, .ref (pl 203)), (1, .int (iI x)), (2, .int (iI y)), (3, .int (iI z)), (4, .int (iI v_1)), (5, .int (iI v_2))] [.int (iI v_5)] _ _ _ _
        refine pm_e_ret pm_a121_59 rfl rfl rfl rfl rfl rfl rfl rfl ?_
        exact k _ _ _ _ (tyF_t f_5 g_5) ⟨by omega, by omega⟩
      · skip
        show pm_E _ _ _ 38 [(0, .ref (pl 203)), (1, .int (iI x)), (2, .int (iI y)), (3, .int (iI z)), (4, .int (iI v_1)), (5, .int (iI v_2))] [.int (iI 0)] _ _ _ _
        refine pm_e_ift pm_a121_38 rfl (by decide +kernel) ?_
        show pm_E _ _ _ 60 [(0, .ref (pl 203)), (1, .int (iI x)), (2, .int (iI y)), (3, .int (iI z)), (4, .int (iI v_1)), (5, .int (iI v_2))] [] _ _ _ _
        refine pm_e_sim pm_a121_60 rfl ?_
        show pm_E _ _ _ 61 [(0, .ref (pl 203)), (1, .int (iI x)), (2, .int (iI y)), (3, .int (iI z)), (4, .int (iI v_1)), (5, .int (iI v_2))] [.ref (pl 203)] _ _ _ _
        refine pm_e_sim pm_a121_61 rfl ?_
        show pm_E _ _ _ 63 [(0, .ref (pl 203)), (1, .int (iI x)), (2, .int (iI y)), (3, .int (iI z)), (4, .int (iI v_1)), (5, .int (iI v_2))] [.int (iI v_1), .ref (pl 203)] _ _ _ _
        refine pm_i_callv (k := (pl 203)) (T2 := pm_mm124) pm_a121_63 rfl rfl rfl (cg_203 hW h203) ⟨Nat.le_of_ble_eq_true rfl, Nat.le_of_ble_eq_true rfl, rfl, by decide +kernel⟩ ?_
        show pm_E none _ _ 0 [(0, .ref (pl 203)), (1, .int (iI v_1))] [] _ _ _ _
        refine C_y_isArrow hW h203 ⟨by omega, by omega⟩ ?_ ?_
        · skip
          show pm_E _ _ _ 66 [(0, .ref (pl 203)), (1, .int (iI x)), (2, .int (iI y)), (3, .int (iI z)), (4, .int (iI v_1)), (5, .int (iI v_2))] [.int (iI 1)] _ _ _ _
          refine pm_e_iff pm_a121_66 rfl (by decide +kernel) ?_
          show pm_E _ _ _ 69 [(0, .ref (pl 203)), (1, .int (iI x)), (2, .int (iI y)), (3, .int (iI z)), (4, .int (iI v_1)), (5, .int (iI v_2))] [] _ _ _ _
          refine pm_e_sim pm_a121_69 rfl ?_
          show pm_E _ _ _ 70 [(0, .ref (pl 203)), (1, .int (iI x)), (2, .int (iI y)), (3, .int (iI z)), (4, .int (iI v_1)), (5, .int (iI v_2))] [.ref (pl 203)] _ _ _ _
          refine pm_i_get pm_a121_70 rfl (cg_203 hW h203) rfl ?_
          show pm_E _ _ _ 73 [(0, .ref (pl 203)), (1, .int (iI x)), (2, .int (iI y)), (3, .int (iI z)), (4, .int (iI v_1)), (5, .int (iI v_2))] [.ref (pl 206)] _ _ _ _
          refine pm_e_sim pm_a121_73 rfl ?_
          show pm_E _ _ _ 75 [(0, .ref (pl 203)), (1, .int (iI x)), (2, .int (iI y)), (3, .int (iI z)), (4, .int (iI v_1)), (5, .int (iI v_2))] [.int (iI v_2), .ref (pl 206)] _ _ _ _
          refine pm_e_sim pm_a121_75 rfl ?_
          show pm_E _ _ _ 77 [(0, .ref (pl 203)), (1, .int (iI x)), (2, .int (iI y)), (3, .int (iI z)), (4, .int (iI v_1)), (5, .int (iI v_2))] [.int (iI v_1), .int (iI v_2), .ref (pl 206)] _ _ _ _
          refine pm_e_call (T2 := pm_mm114) pm_a121_77 rfl rfl rfl rfl rfl rfl rfl rfl rfl ?_
          show pm_E none _ _ 0 [(0, .ref (pl 206)), (1, .int (iI v_2)), (2, .int (iI v_1))] [] _ _ _ _
          have f_6 := (tyF_t f_2 g_2)
          refine C_yset_206 hW h203 ⟨by omega, by omega⟩ (fun a_6 g_6 => ?_)
          show pm_E _ _ _ 80 [(0, .ref (pl 203)), (1, .int (iI x)), (2, .int (iI y)), (3, .int (iI z)), (4, .int (iI v_1)), (5, .int (iI v_2))] [] _ _ _ _
          refine pm_e_goto pm_a121_80 rfl ?_
          show pm_E _ _ _ 94 [(0, .ref (pl 203)), (1, .int (iI x)), (2, .int (iI y)), (3, .int (iI z)), (4, .int (iI v_1)), (5, .int (iI v_2))] [] _ _ _ _
          refine pm_e_sim pm_a121_94 rfl ?_
          show pm_E _ _ _ 95 [(0, .ref (pl 203)), (1, .int (iI x)), (2, .int (iI y)), (3, .int (iI z)), (4, .int (iI v_1)), (5, .int (iI v_2))] [.int (iI z)] _ _ _ _
          refine pm_e_ret pm_a121_95 rfl rfl rfl rfl rfl rfl rfl rfl ?_
          exact k _ _ _ _ (tyF_a f_6 g_6) ⟨by omega, by omega⟩
        · skip
          show pm_E _ _ _ 66 [(0, .ref (pl 203)), (1, .int (iI x)), (2, .int (iI y)), (3, .int (iI z)), (4, .int (iI v_1)), (5, .int (iI v_2))] [.int (iI 0)] _ _ _ _
          refine pm_e_ift pm_a121_66 rfl (by decide +kernel) ?_
          show pm_E _ _ _ 83 [(0, .ref (pl 203)), (1, .int (iI x)), (2, .int (iI y)), (3, .int (iI z)), (4, .int (iI v_1)), (5, .int (iI v_2))] [] _ _ _ _
          refine pm_e_sim pm_a121_83 rfl ?_
          show pm_E _ _ _ 84 [(0, .ref (pl 203)), (1, .int (iI x)), (2, .int (iI y)), (3, .int (iI z)), (4, .int (iI v_1)), (5, .int (iI v_2))] [.ref (pl 203)] _ _ _ _
          refine pm_i_get pm_a121_84 rfl (cg_203 hW h203) rfl ?_
          show pm_E _ _ _ 87 [(0, .ref (pl 203)), (1, .int (iI x)), (2, .int (iI y)), (3, .int (iI z)), (4, .int (iI v_1)), (5, .int (iI v_2))] [.ref (pl 206)] _ _ _ _
          refine pm_e_sim pm_a121_87 rfl ?_
          show pm_E _ _ _ 89 [(0, .ref (pl 203)), (1, .int (iI x)), (2, .int (iI y)), (3, .int (iI z)), (4, .int (iI v_1)), (5, .int (iI v_2))] [.int (iI v_1), .ref (pl 206)] _ _ _ _
          refine pm_e_sim pm_a121_89 rfl ?_
          show pm_E _ _ _ 91 [(0, .ref (pl 203)), (1, .int (iI x)), (2, .int (iI y)), (3, .int (iI z)), (4, .int (iI v_1)), (5, .int (iI v_2))] [.int (iI v_2), .int (iI v_1), .ref (pl 206)] _ _ _ _
          refine pm_e_call (T2 := pm_mm114) pm_a121_91 rfl rfl rfl rfl rfl rfl rfl rfl rfl ?_
          show pm_E none _ _ 0 [(0, .ref (pl 206)), (1, .int (iI v_1)), (2, .int (iI v_2))] [] _ _ _ _
          have f_7 := (tyF_t f_2 g_2)
          refine C_yset_206 hW h203 ⟨by omega, by omega⟩ (fun a_7 g_7 => ?_)
          show pm_E _ _ _ 94 [(0, .ref (pl 203)), (1, .int (iI x)), (2, .int (iI y)), (3, .int (iI z)), (4, .int (iI v_1)), (5, .int (iI v_2))] [] _ _ _ _
          refine pm_e_sim pm_a121_94 rfl ?_
          show pm_E _ _ _ 95 [(0, .ref (pl 203)), (1, .int (iI x)), (2, .int (iI y)), (3, .int (iI z)), (4, .int (iI v_1)), (5, .int (iI v_2))] [.int (iI z)] _ _ _ _
          refine pm_e_ret pm_a121_95 rfl rfl rfl rfl rfl rfl rfl rfl ?_
          exact k _ _ _ _ (tyF_a f_7 g_7) ⟨by omega, by omega⟩
    · skip
      show pm_E _ _ _ 29 [(0, .ref (pl 203)), (1, .int (iI x)), (2, .int (iI y)), (3, .int (iI z)), (4, .int (iI v_1)), (5, .int (iI v_2))] [.int (iI 0)] _ _ _ _
      refine pm_e_ift pm_a121_29 rfl (by decide +kernel) ?_
      show pm_E _ _ _ 60 [(0, .ref (pl 203)), (1, .int (iI x)), (2, .int (iI y)), (3, .int (iI z)), (4, .int (iI v_1)), (5, .int (iI v_2))] [] _ _ _ _
      refine pm_e_sim pm_a121_60 rfl ?_
      show pm_E _ _ _ 61 [(0, .ref (pl 203)), (1, .int (iI x)), (2, .int (iI y)), (3, .int (iI z)), (4, .int (iI v_1)), (5, .int (iI v_2))] [.ref (pl 203)] _ _ _ _
      refine pm_e_sim pm_a121_61 rfl ?_
      show pm_E _ _ _ 63 [(0, .ref (pl 203)), (1, .int (iI x)), (2, .int (iI y)), (3, .int (iI z)), (4, .int (iI v_1)), (5, .int (iI v_2))] [.int (iI v_1), .ref (pl 203)] _ _ _ _
      refine pm_i_callv (k := (pl 203)) (T2 := pm_mm124) pm_a121_63 rfl rfl rfl (cg_203 hW h203) ⟨Nat.le_of_ble_eq_true rfl, Nat.le_of_ble_eq_true rfl, rfl, by decide +kernel⟩ ?_
      show pm_E none _ _ 0 [(0, .ref (pl 203)), (1, .int (iI v_1))] [] _ _ _ _
      refine C_y_isArrow hW h203 ⟨by omega, by omega⟩ ?_ ?_
      · skip
        show pm_E _ _ _ 66 [(0, .ref (pl 203)), (1, .int (iI x)), (2, .int (iI y)), (3, .int (iI z)), (4, .int (iI v_1)), (5, .int (iI v_2))] [.int (iI 1)] _ _ _ _
        refine pm_e_iff pm_a121_66 rfl (by decide +kernel) ?_
        show pm_E _ _ _ 69 [(0, .ref (pl 203)), (1, .int (iI x)), (2, .int (iI y)), (3, .int (iI z)), (4, .int (iI v_1)), (5, .int (iI v_2))] [] _ _ _ _
        refine pm_e_sim pm_a121_69 rfl ?_
        show pm_E _ _ _ 70 [(0, .ref (pl 203)), (1, .int (iI x)), (2, .int (iI y)), (3, .int (iI z)), (4, .int (iI v_1)), (5, .int (iI v_2))] [.ref (pl 203)] _ _ _ _
        refine pm_i_get pm_a121_70 rfl (cg_203 hW h203) rfl ?_
        show pm_E _ _ _ 73 [(0, .ref (pl 203)), (1, .int (iI x)), (2, .int (iI y)), (3, .int (iI z)), (4, .int (iI v_1)), (5, .int (iI v_2))] [.ref (pl 206)] _ _ _ _
        refine pm_e_sim pm_a121_73 rfl ?_
        show pm_E _ _ _ 75 [(0, .ref (pl 203)), (1, .int (iI x)), (2, .int (iI y)), (3, .int (iI z)), (4, .int (iI v_1)), (5, .int (iI v_2))] [.int (iI v_2), .ref (pl 206)] _ _ _ _
        refine pm_e_sim pm_a121_75 rfl ?_
        show pm_E _ _ _ 77 [(0, .ref (pl 203)), (1, .int (iI x)), (2, .int (iI y)), (3, .int (iI z)), (4, .int (iI v_1)), (5, .int (iI v_2))] [.int (iI v_1), .int (iI v_2), .ref (pl 206)] _ _ _ _
        refine pm_e_call (T2 := pm_mm114) pm_a121_77 rfl rfl rfl rfl rfl rfl rfl rfl rfl ?_
        show pm_E none _ _ 0 [(0, .ref (pl 206)), (1, .int (iI v_2)), (2, .int (iI v_1))] [] _ _ _ _
        have f_8 := (tyF_t f_2 g_2)
        refine C_yset_206 hW h203 ⟨by omega, by omega⟩ (fun a_8 g_8 => ?_)
        show pm_E _ _ _ 80 [(0, .ref (pl 203)), (1, .int (iI x)), (2, .int (iI y)), (3, .int (iI z)), (4, .int (iI v_1)), (5, .int (iI v_2))] [] _ _ _ _
        refine pm_e_goto pm_a121_80 rfl ?_
        show pm_E _ _ _ 94 [(0, .ref (pl 203)), (1, .int (iI x)), (2, .int (iI y)), (3, .int (iI z)), (4, .int (iI v_1)), (5, .int (iI v_2))] [] _ _ _ _
        refine pm_e_sim pm_a121_94 rfl ?_
        show pm_E _ _ _ 95 [(0, .ref (pl 203)), (1, .int (iI x)), (2, .int (iI y)), (3, .int (iI z)), (4, .int (iI v_1)), (5, .int (iI v_2))] [.int (iI z)] _ _ _ _
        refine pm_e_ret pm_a121_95 rfl rfl rfl rfl rfl rfl rfl rfl ?_
        exact k _ _ _ _ (tyF_a f_8 g_8) ⟨by omega, by omega⟩
      · skip
        show pm_E _ _ _ 66 [(0, .ref (pl 203)), (1, .int (iI x)), (2, .int (iI y)), (3, .int (iI z)), (4, .int (iI v_1)), (5, .int (iI v_2))] [.int (iI 0)] _ _ _ _
        refine pm_e_ift pm_a121_66 rfl (by decide +kernel) ?_
        show pm_E _ _ _ 83 [(0, .ref (pl 203)), (1, .int (iI x)), (2, .int (iI y)), (3, .int (iI z)), (4, .int (iI v_1)), (5, .int (iI v_2))] [] _ _ _ _
        refine pm_e_sim pm_a121_83 rfl ?_
        show pm_E _ _ _ 84 [(0, .ref (pl 203)), (1, .int (iI x)), (2, .int (iI y)), (3, .int (iI z)), (4, .int (iI v_1)), (5, .int (iI v_2))] [.ref (pl 203)] _ _ _ _
        refine pm_i_get pm_a121_84 rfl (cg_203 hW h203) rfl ?_
        show pm_E _ _ _ 87 [(0, .ref (pl 203)), (1, .int (iI x)), (2, .int (iI y)), (3, .int (iI z)), (4, .int (iI v_1)), (5, .int (iI v_2))] [.ref (pl 206)] _ _ _ _
        refine pm_e_sim pm_a121_87 rfl ?_
        show pm_E _ _ _ 89 [(0, .ref (pl 203)), (1, .int (iI x)), (2, .int (iI y)), (3, .int (iI z)), (4, .int (iI v_1)), (5, .int (iI v_2))] [.int (iI v_1), .ref (pl 206)] _ _ _ _
        refine pm_e_sim pm_a121_89 rfl ?_
        show pm_E _ _ _ 91 [(0, .ref (pl 203)), (1, .int (iI x)), (2, .int (iI y)), (3, .int (iI z)), (4, .int (iI v_1)), (5, .int (iI v_2))] [.int (iI v_2), .int (iI v_1), .ref (pl 206)] _ _ _ _
        refine pm_e_call (T2 := pm_mm114) pm_a121_91 rfl rfl rfl rfl rfl rfl rfl rfl rfl ?_
        show pm_E none _ _ 0 [(0, .ref (pl 206)), (1, .int (iI v_1)), (2, .int (iI v_2))] [] _ _ _ _
        have f_9 := (tyF_t f_2 g_2)
        refine C_yset_206 hW h203 ⟨by omega, by omega⟩ (fun a_9 g_9 => ?_)
        show pm_E _ _ _ 94 [(0, .ref (pl 203)), (1, .int (iI x)), (2, .int (iI y)), (3, .int (iI z)), (4, .int (iI v_1)), (5, .int (iI v_2))] [] _ _ _ _
        refine pm_e_sim pm_a121_94 rfl ?_
        show pm_E _ _ _ 95 [(0, .ref (pl 203)), (1, .int (iI x)), (2, .int (iI y)), (3, .int (iI z)), (4, .int (iI v_1)), (5, .int (iI v_2))] [.int (iI z)] _ _ _ _
        refine pm_e_ret pm_a121_95 rfl rfl rfl rfl rfl rfl rfl rfl ?_
        exact k _ _ _ _ (tyF_a f_9 g_9) ⟨by omega, by omega⟩
  · skip
    show pm_E _ _ _ 21 [(0, .ref (pl 203)), (1, .int (iI x)), (2, .int (iI y)), (3, .int (iI z)), (4, .int (iI v_1)), (5, .int (iI v_2))] [] _ _ _ _
    refine pm_e_sim pm_a121_21 rfl ?_
    show pm_E _ _ _ 22 [(0, .ref (pl 203)), (1, .int (iI x)), (2, .int (iI y)), (3, .int (iI z)), (4, .int (iI v_1)), (5, .int (iI v_2))] [.int (iI z)] _ _ _ _
    refine pm_e_ret pm_a121_22 rfl rfl rfl rfl rfl rfl rfl rfl ?_
    exact k _ _ _ _ (tyF_t f_2 g_2) ⟨by omega, by omega⟩
set_option maxHeartbeats 4000000 in
set_option maxRecDepth 100000 in
theorem C_y_joinAll_l {d n : Nat} {kd pl : Nat → Nat} {M : List va_E} {Q : Option Value → List va_E → Nat → Nat → Prop} {x y : Int} (hW : wf n kd pl) (h203 : al n kd pl 203) : ∀ (f : Nat) (q i : Int) (s : Nat → Int) (a : Nat → Int → Int) (c : Nat → cdt), in32 q → 0 ≤ i → i ≤ 2800 → tyO s c → (∀ s' a' c', tyF s a c s' a' c' → Q none (ch n kd pl s' a' c' M) 0 0) → 2800 - i < (f : Int) → pm_E none (d + 3) pm_mm120 11 [(0, .ref (pl 203)), (1, .int (iI x)), (2, .int (iI y)), (3, .int (iI q)), (4, .int (iI i))] [] (ch n kd pl s a c M) 0 0 Q := by
  intro f
  induction f with
  | zero =>
    intro q i s a c hr_ hi0 hi1 ho k hf
    exfalso; omega
  | succ f ih =>
    intro q i s a c hr_ hi0 hi1 ho k hf
    obtain ⟨⟨_, _, _, _⟩, ⟨_, _, _, _⟩, ⟨_, _⟩, ⟨_, _⟩, ⟨_, _⟩⟩ := id ho
    have rb4 := rm_b 4
    have rb5 := rm_b 5
    obtain ⟨_, _⟩ := id hr_
    refine pm_e_sim pm_a120_11 rfl ?_
    show pm_E _ _ _ 13 [(0, .ref (pl 203)), (1, .int (iI x)), (2, .int (iI y)), (3, .int (iI q)), (4, .int (iI i))] [.int (iI i)] _ _ _ _
    refine pm_e_sim pm_a120_13 rfl ?_
    show pm_E _ _ _ 14 [(0, .ref (pl 203)), (1, .int (iI x)), (2, .int (iI y)), (3, .int (iI q)), (4, .int (iI i))] [.int (iI q), .int (iI i)] _ _ _ _
    refine pm_c_ge (t := 98) pm_a120_14 rfl ⟨by omega, by omega⟩ ⟨by omega, by omega⟩ (fun h_1 => ?_) (fun h_1 => ?_)
    · skip
      show pm_E _ _ _ 98 [(0, .ref (pl 203)), (1, .int (iI x)), (2, .int (iI y)), (3, .int (iI q)), (4, .int (iI i))] [] _ _ _ _
      refine pm_e_ret pm_a120_98 rfl rfl rfl rfl rfl rfl rfl rfl ?_
      exact k _ _ _ (tyF_r (a := a) ho)
    · skip
      show pm_E _ _ _ 17 [(0, .ref (pl 203)), (1, .int (iI x)), (2, .int (iI y)), (3, .int (iI q)), (4, .int (iI i))] [] _ _ _ _
      refine pm_e_sim pm_a120_17 rfl ?_
      show pm_E _ _ _ 19 [(0, .ref (pl 203)), (1, .int (iI x)), (2, .int (iI y)), (3, .int (iI q)), (4, .int (iI i))] [.int (iI i)] _ _ _ _
      refine pm_e_sim pm_a120_19 rfl ?_
      refine pm_e_top (y := iI 2800) (by decide +kernel) ?_
      show pm_E _ _ _ 22 [(0, .ref (pl 203)), (1, .int (iI x)), (2, .int (iI y)), (3, .int (iI q)), (4, .int (iI i))] [.int (iI 2800), .int (iI i)] _ _ _ _
      refine pm_c_ge (t := 98) pm_a120_22 rfl ⟨by omega, by omega⟩ ⟨by omega, by omega⟩ (fun h_2 => ?_) (fun h_2 => ?_)
      · skip
        show pm_E _ _ _ 98 [(0, .ref (pl 203)), (1, .int (iI x)), (2, .int (iI y)), (3, .int (iI q)), (4, .int (iI i))] [] _ _ _ _
        refine pm_e_ret pm_a120_98 rfl rfl rfl rfl rfl rfl rfl rfl ?_
        exact k _ _ _ (tyF_r (a := a) ho)
      · skip
        show pm_E _ _ _ 25 [(0, .ref (pl 203)), (1, .int (iI x)), (2, .int (iI y)), (3, .int (iI q)), (4, .int (iI i))] [] _ _ _ _
        refine pm_e_sim pm_a120_25 rfl ?_
        show pm_E _ _ _ 26 [(0, .ref (pl 203)), (1, .int (iI x)), (2, .int (iI y)), (3, .int (iI q)), (4, .int (iI i))] [.ref (pl 203)] _ _ _ _
        refine pm_i_get pm_a120_26 rfl (cg_203 hW h203) rfl ?_
        show pm_E _ _ _ 29 [(0, .ref (pl 203)), (1, .int (iI x)), (2, .int (iI y)), (3, .int (iI q)), (4, .int (iI i))] [.ref (pl 207)] _ _ _ _
        refine pm_e_sim pm_a120_29 rfl ?_
        show pm_E _ _ _ 31 [(0, .ref (pl 203)), (1, .int (iI x)), (2, .int (iI y)), (3, .int (iI q)), (4, .int (iI i))] [.int (iI i), .ref (pl 207)] _ _ _ _
        refine pm_e_call (T2 := pm_mm123) pm_a120_31 rfl rfl rfl rfl rfl rfl rfl rfl rfl ?_
        show pm_E none _ _ 0 [(0, .ref (pl 207)), (1, .int (iI i))] [] _ _ _ _
        refine C_yat_207 hW h203 ⟨by omega, by omega⟩ (fun v_3 b_3 => ?_)
        obtain ⟨_, _⟩ := b_3
        show pm_E _ _ _ 34 [(0, .ref (pl 203)), (1, .int (iI x)), (2, .int (iI y)), (3, .int (iI q)), (4, .int (iI i))] [.int (iI v_3)] _ _ _ _
        refine pm_e_sim pm_a120_34 rfl ?_
        show pm_E _ _ _ 36 [(0, .ref (pl 203)), (1, .int (iI x)), (2, .int (iI y)), (3, .int (iI q)), (4, .int (iI i)), (5, .int (iI v_3))] [] _ _ _ _
        refine pm_e_sim pm_a120_36 rfl ?_
        show pm_E _ _ _ 37 [(0, .ref (pl 203)), (1, .int (iI x)), (2, .int (iI y)), (3, .int (iI q)), (4, .int (iI i)), (5, .int (iI v_3))] [.ref (pl 203)] _ _ _ _
        refine pm_e_sim pm_a120_37 rfl ?_
        show pm_E _ _ _ 39 [(0, .ref (pl 203)), (1, .int (iI x)), (2, .int (iI y)), (3, .int (iI q)), (4, .int (iI i)), (5, .int (iI v_3))] [.int (iI v_3), .ref (pl 203)] _ _ _ _
        refine pm_i_callv (k := (pl 203)) (T2 := pm_mm122) pm_a120_39 rfl rfl rfl (cg_203 hW h203) ⟨Nat.le_of_ble_eq_true rfl, Nat.le_of_ble_eq_true rfl, rfl, by decide +kernel⟩ ?_
        show pm_E none _ _ 0 [(0, .ref (pl 203)), (1, .int (iI v_3))] [] _ _ _ _
        have f_4 := (tyF_r (a := a) ho)
        refine C_y_rootOf hW h203 f_4.2.2.2 ⟨by omega, by omega⟩ (fun s_4 a_4 c_4 v_4 g_4 b_4 => ?_)
        have e_4 := g_4.2.2.2
        obtain ⟨⟨_, _, _, _⟩, ⟨_, _, _, _⟩, ⟨_, _⟩, ⟨_, _⟩, ⟨_, _⟩⟩ := e_4
        obtain ⟨_, _⟩ := b_4
        show pm_E _ _ _ 42 [(0, .ref (pl 203)), (1, .int (iI x)), (2, .int (iI y)), (3, .int (iI q)), (4, .int (iI i)), (5, .int (iI v_3))] [.int (iI v_4)] _ _ _ _
        refine pm_e_sim pm_a120_42 rfl ?_
        show pm_E _ _ _ 44 [(0, .ref (pl 203)), (1, .int (iI x)), (2, .int (iI y)), (3, .int (iI q)), (4, .int (iI i)), (5, .int (iI v_3)), (6, .int (iI v_4))] [] _ _ _ _
        refine pm_e_sim pm_a120_44 rfl ?_
        show pm_E _ _ _ 45 [(0, .ref (pl 203)), (1, .int (iI x)), (2, .int (iI y)), (3, .int (iI q)), (4, .int (iI i)), (5, .int (iI v_3)), (6, .int (iI v_4))] [.ref (pl 203)] _ _ _ _
        refine pm_e_sim pm_a120_45 rfl ?_
        show pm_E _ _ _ 46 [(0, .ref (pl 203)), (1, .int (iI x)), (2, .int (iI y)), (3, .int (iI q)), (4, .int (iI i)), (5, .int (iI v_3)), (6, .int (iI v_4))] [.ref (pl 203), .ref (pl 203)] _ _ _ _
        refine pm_i_get pm_a120_46 rfl (cg_203 hW h203) rfl ?_
        show pm_E _ _ _ 49 [(0, .ref (pl 203)), (1, .int (iI x)), (2, .int (iI y)), (3, .int (iI q)), (4, .int (iI i)), (5, .int (iI v_3)), (6, .int (iI v_4))] [.ref (pl 204), .ref (pl 203)] _ _ _ _
        refine pm_e_sim pm_a120_49 rfl ?_
        show pm_E _ _ _ 51 [(0, .ref (pl 203)), (1, .int (iI x)), (2, .int (iI y)), (3, .int (iI q)), (4, .int (iI i)), (5, .int (iI v_3)), (6, .int (iI v_4))] [.int (iI v_3), .ref (pl 204), .ref (pl 203)] _ _ _ _
        refine pm_e_call (T2 := pm_mm123) pm_a120_51 rfl rfl rfl rfl rfl rfl rfl rfl rfl ?_
        show pm_E none _ _ 0 [(0, .ref (pl 204)), (1, .int (iI v_3))] [] _ _ _ _
        refine C_yat_204 hW h203 ⟨by omega, by omega⟩ (fun v_5 b_5 => ?_)
        obtain ⟨_, _⟩ := b_5
        show pm_E _ _ _ 54 [(0, .ref (pl 203)), (1, .int (iI x)), (2, .int (iI y)), (3, .int (iI q)), (4, .int (iI i)), (5, .int (iI v_3)), (6, .int (iI v_4))] [.int (iI v_5), .ref (pl 203)] _ _ _ _
        refine pm_e_sim pm_a120_54 rfl ?_
        show pm_E _ _ _ 55 [(0, .ref (pl 203)), (1, .int (iI x)), (2, .int (iI y)), (3, .int (iI q)), (4, .int (iI i)), (5, .int (iI v_3)), (6, .int (iI v_4))] [.ref (pl 203), .int (iI v_5), .ref (pl 203)] _ _ _ _
        refine pm_i_get pm_a120_55 rfl (cg_203 hW h203) rfl ?_
        show pm_E _ _ _ 58 [(0, .ref (pl 203)), (1, .int (iI x)), (2, .int (iI y)), (3, .int (iI q)), (4, .int (iI i)), (5, .int (iI v_3)), (6, .int (iI v_4))] [.ref (pl 204), .int (iI v_5), .ref (pl 203)] _ _ _ _
        refine pm_e_sim pm_a120_58 rfl ?_
        show pm_E _ _ _ 60 [(0, .ref (pl 203)), (1, .int (iI x)), (2, .int (iI y)), (3, .int (iI q)), (4, .int (iI i)), (5, .int (iI v_3)), (6, .int (iI v_4))] [.int (iI v_4), .ref (pl 204), .int (iI v_5), .ref (pl 203)] _ _ _ _
        refine pm_e_call (T2 := pm_mm123) pm_a120_60 rfl rfl rfl rfl rfl rfl rfl rfl rfl ?_
        show pm_E none _ _ 0 [(0, .ref (pl 204)), (1, .int (iI v_4))] [] _ _ _ _
        refine C_yat_204 hW h203 ⟨by omega, by omega⟩ (fun v_6 b_6 => ?_)
        obtain ⟨_, _⟩ := b_6
        show pm_E _ _ _ 63 [(0, .ref (pl 203)), (1, .int (iI x)), (2, .int (iI y)), (3, .int (iI q)), (4, .int (iI i)), (5, .int (iI v_3)), (6, .int (iI v_4))] [.int (iI v_6), .int (iI v_5), .ref (pl 203)] _ _ _ _
        refine pm_e_sim pm_a120_63 rfl ?_
        show pm_E _ _ _ 64 [(0, .ref (pl 203)), (1, .int (iI x)), (2, .int (iI y)), (3, .int (iI q)), (4, .int (iI i)), (5, .int (iI v_3)), (6, .int (iI v_4))] [.int (iI q), .int (iI v_6), .int (iI v_5), .ref (pl 203)] _ _ _ _
        refine pm_i_callv (k := (pl 203)) (T2 := pm_mm121) pm_a120_64 rfl rfl rfl (cg_203 hW h203) ⟨Nat.le_of_ble_eq_true rfl, Nat.le_of_ble_eq_true rfl, rfl, by decide +kernel⟩ ?_
        show pm_E none _ _ 0 [(0, .ref (pl 203)), (1, .int (iI v_5)), (2, .int (iI v_6)), (3, .int (iI q))] [] _ _ _ _
        have f_7 := (tyF_t f_4 g_4)
        refine C_y_join hW h203 f_7.2.2.2 ⟨by omega, by omega⟩ ⟨by omega, by omega⟩ ⟨by omega, by omega⟩ (fun s_7 a_7 c_7 v_7 g_7 b_7 => ?_)
        have e_7 := g_7.2.2.2
        obtain ⟨⟨_, _, _, _⟩, ⟨_, _, _, _⟩, ⟨_, _⟩, ⟨_, _⟩, ⟨_, _⟩⟩ := e_7
        obtain ⟨_, _⟩ := b_7
        show pm_E _ _ _ 67 [(0, .ref (pl 203)), (1, .int (iI x)), (2, .int (iI y)), (3, .int (iI q)), (4, .int (iI i)), (5, .int (iI v_3)), (6, .int (iI v_4))] [.int (iI v_7)] _ _ _ _
        refine pm_e_sim pm_a120_67 rfl ?_
        show pm_E _ _ _ 68 [(0, .ref (pl 203)), (1, .int (iI x)), (2, .int (iI y)), (3, .int (iI v_7)), (4, .int (iI i)), (5, .int (iI v_3)), (6, .int (iI v_4))] [] _ _ _ _
        refine pm_e_sim pm_a120_68 rfl ?_
        show pm_E _ _ _ 69 [(0, .ref (pl 203)), (1, .int (iI x)), (2, .int (iI y)), (3, .int (iI v_7)), (4, .int (iI i)), (5, .int (iI v_3)), (6, .int (iI v_4))] [.ref (pl 203)] _ _ _ _
        refine pm_e_sim pm_a120_69 rfl ?_
        show pm_E _ _ _ 70 [(0, .ref (pl 203)), (1, .int (iI x)), (2, .int (iI y)), (3, .int (iI v_7)), (4, .int (iI i)), (5, .int (iI v_3)), (6, .int (iI v_4))] [.ref (pl 203), .ref (pl 203)] _ _ _ _
        refine pm_i_get pm_a120_70 rfl (cg_203 hW h203) rfl ?_
        show pm_E _ _ _ 73 [(0, .ref (pl 203)), (1, .int (iI x)), (2, .int (iI y)), (3, .int (iI v_7)), (4, .int (iI i)), (5, .int (iI v_3)), (6, .int (iI v_4))] [.ref (pl 205), .ref (pl 203)] _ _ _ _
        refine pm_e_sim pm_a120_73 rfl ?_
        show pm_E _ _ _ 75 [(0, .ref (pl 203)), (1, .int (iI x)), (2, .int (iI y)), (3, .int (iI v_7)), (4, .int (iI i)), (5, .int (iI v_3)), (6, .int (iI v_4))] [.int (iI v_3), .ref (pl 205), .ref (pl 203)] _ _ _ _
        refine pm_e_call (T2 := pm_mm123) pm_a120_75 rfl rfl rfl rfl rfl rfl rfl rfl rfl ?_
        show pm_E none _ _ 0 [(0, .ref (pl 205)), (1, .int (iI v_3))] [] _ _ _ _
        refine C_yat_205 hW h203 ⟨by omega, by omega⟩ (fun v_8 b_8 => ?_)
        obtain ⟨_, _⟩ := b_8
        show pm_E _ _ _ 78 [(0, .ref (pl 203)), (1, .int (iI x)), (2, .int (iI y)), (3, .int (iI v_7)), (4, .int (iI i)), (5, .int (iI v_3)), (6, .int (iI v_4))] [.int (iI v_8), .ref (pl 203)] _ _ _ _
        refine pm_e_sim pm_a120_78 rfl ?_
        show pm_E _ _ _ 79 [(0, .ref (pl 203)), (1, .int (iI x)), (2, .int (iI y)), (3, .int (iI v_7)), (4, .int (iI i)), (5, .int (iI v_3)), (6, .int (iI v_4))] [.ref (pl 203), .int (iI v_8), .ref (pl 203)] _ _ _ _
        refine pm_i_get pm_a120_79 rfl (cg_203 hW h203) rfl ?_
        show pm_E _ _ _ 82 [(0, .ref (pl 203)), (1, .int (iI x)), (2, .int (iI y)), (3, .int (iI v_7)), (4, .int (iI i)), (5, .int (iI v_3)), (6, .int (iI v_4))] [.ref (pl 205), .int (iI v_8), .ref (pl 203)] _ _ _ _
        refine pm_e_sim pm_a120_82 rfl ?_
        show pm_E _ _ _ 84 [(0, .ref (pl 203)), (1, .int (iI x)), (2, .int (iI y)), (3, .int (iI v_7)), (4, .int (iI i)), (5, .int (iI v_3)), (6, .int (iI v_4))] [.int (iI v_4), .ref (pl 205), .int (iI v_8), .ref (pl 203)] _ _ _ _
        refine pm_e_call (T2 := pm_mm123) pm_a120_84 rfl rfl rfl rfl rfl rfl rfl rfl rfl ?_
        show pm_E none _ _ 0 [(0, .ref (pl 205)), (1, .int (iI v_4))] [] _ _ _ _
        refine C_yat_205 hW h203 ⟨by omega, by omega⟩ (fun v_9 b_9 => ?_)
        obtain ⟨_, _⟩ := b_9
        show pm_E _ _ _ 87 [(0, .ref (pl 203)), (1, .int (iI x)), (2, .int (iI y)), (3, .int (iI v_7)), (4, .int (iI i)), (5, .int (iI v_3)), (6, .int (iI v_4))] [.int (iI v_9), .int (iI v_8), .ref (pl 203)] _ _ _ _
        refine pm_e_sim pm_a120_87 rfl ?_
        show pm_E _ _ _ 88 [(0, .ref (pl 203)), (1, .int (iI x)), (2, .int (iI y)), (3, .int (iI v_7)), (4, .int (iI i)), (5, .int (iI v_3)), (6, .int (iI v_4))] [.int (iI v_7), .int (iI v_9), .int (iI v_8), .ref (pl 203)] _ _ _ _
        refine pm_i_callv (k := (pl 203)) (T2 := pm_mm121) pm_a120_88 rfl rfl rfl (cg_203 hW h203) ⟨Nat.le_of_ble_eq_true rfl, Nat.le_of_ble_eq_true rfl, rfl, by decide +kernel⟩ ?_
        show pm_E none _ _ 0 [(0, .ref (pl 203)), (1, .int (iI v_8)), (2, .int (iI v_9)), (3, .int (iI v_7))] [] _ _ _ _
        have f_10 := (tyF_t f_7 g_7)
        refine C_y_join hW h203 f_10.2.2.2 ⟨by omega, by omega⟩ ⟨by omega, by omega⟩ ⟨by omega, by omega⟩ (fun s_10 a_10 c_10 v_10 g_10 b_10 => ?_)
        have e_10 := g_10.2.2.2
        obtain ⟨⟨_, _, _, _⟩, ⟨_, _, _, _⟩, ⟨_, _⟩, ⟨_, _⟩, ⟨_, _⟩⟩ := e_10
        obtain ⟨_, _⟩ := b_10
        show pm_E _ _ _ 91 [(0, .ref (pl 203)), (1, .int (iI x)), (2, .int (iI y)), (3, .int (iI v_7)), (4, .int (iI i)), (5, .int (iI v_3)), (6, .int (iI v_4))] [.int (iI v_10)] _ _ _ _
        refine pm_e_sim pm_a120_91 rfl ?_
        show pm_E _ _ _ 92 [(0, .ref (pl 203)), (1, .int (iI x)), (2, .int (iI y)), (3, .int (iI v_10)), (4, .int (iI i)), (5, .int (iI v_3)), (6, .int (iI v_4))] [] _ _ _ _
        refine pm_e_inc (y := iI (i + 1)) pm_a120_92 rfl (iI_add _ _) (by decide +kernel) rfl ?_
        show pm_E _ _ _ 95 [(0, .ref (pl 203)), (1, .int (iI x)), (2, .int (iI y)), (3, .int (iI v_10)), (4, .int (iI (i + 1))), (5, .int (iI v_3)), (6, .int (iI v_4))] [] _ _ _ _
        refine pm_e_goto pm_a120_95 rfl ?_
        show pm_E _ _ _ 11 [(0, .ref (pl 203)), (1, .int (iI x)), (2, .int (iI y)), (3, .int (iI v_10)), (4, .int (iI (i + 1))), (5, .int (iI v_3)), (6, .int (iI v_4))] [] _ _ _ _
        show pm_E _ _ _ 11 ([(0, .ref (pl 203)), (1, .int (iI x)), (2, .int (iI y)), (3, .int (iI v_10)), (4, .int (iI (i + 1)))] ++ [(5, .int (iI v_3)), (6, .int (iI v_4))]) [] _ _ _ _
        refine pm_e_more [(5, .int (iI v_3)), (6, .int (iI v_4))] (show ([0, 1, 2, 3, 4, 5, 6] : List Nat).Nodup from by decide) ?_
        have f_11 := (tyF_t f_10 g_10)
        exact ih v_10 (i + 1) _ _ _ ⟨by omega, by omega⟩ (by omega) (by omega) f_11.2.2.2 (fun s2 a2 c2 f2 => k s2 a2 c2 (tyF_t f_11 f2)) (by omega)
set_option maxHeartbeats 4000000 in
set_option maxRecDepth 100000 in
theorem C_y_joinAll {d n : Nat} {kd pl : Nat → Nat} {s : Nat → Int} {a : Nat → Int → Int} {c : Nat → cdt} {M : List va_E} {Q : Option Value → List va_E → Nat → Nat → Prop} {x y : Int} (hW : wf n kd pl) (h203 : al n kd pl 203) (ho : tyO s c) (hx : in32 x) (hy : in32 y) (k : ∀ s' a' c', tyF s a c s' a' c' → Q none (ch n kd pl s' a' c' M) 0 0) : pm_E none (d + 3) pm_mm120 0 [(0, .ref (pl 203)), (1, .int (iI x)), (2, .int (iI y))] [] (ch n kd pl s a c M) 0 0 Q := by
  obtain ⟨⟨_, _, _, _⟩, ⟨_, _, _, _⟩, ⟨_, _⟩, ⟨_, _⟩, ⟨_, _⟩⟩ := id ho
  have rb4 := rm_b 4
  have rb5 := rm_b 5
  obtain ⟨_, _⟩ := id hx
  obtain ⟨_, _⟩ := id hy
  refine pm_e_sim pm_a120_0 rfl ?_
  show pm_E _ _ _ 1 [(0, .ref (pl 203)), (1, .int (iI x)), (2, .int (iI y))] [.ref (pl 203)] _ _ _ _
  refine pm_e_sim pm_a120_1 rfl ?_
  show pm_E _ _ _ 2 [(0, .ref (pl 203)), (1, .int (iI x)), (2, .int (iI y))] [.int (iI x), .ref (pl 203)] _ _ _ _
  refine pm_e_sim pm_a120_2 rfl ?_
  show pm_E _ _ _ 3 [(0, .ref (pl 203)), (1, .int (iI x)), (2, .int (iI y))] [.int (iI y), .int (iI x), .ref (pl 203)] _ _ _ _
  refine pm_e_sim pm_a120_3 rfl ?_
  refine pm_e_top (y := iI 0) (by decide +kernel) ?_
  show pm_E _ _ _ 4 [(0, .ref (pl 203)), (1, .int (iI x)), (2, .int (iI y))] [.int (iI 0), .int (iI y), .int (iI x), .ref (pl 203)] _ _ _ _
  refine pm_i_callv (k := (pl 203)) (T2 := pm_mm121) pm_a120_4 rfl rfl rfl (cg_203 hW h203) ⟨Nat.le_of_ble_eq_true rfl, Nat.le_of_ble_eq_true rfl, rfl, by decide +kernel⟩ ?_
  show pm_E none _ _ 0 [(0, .ref (pl 203)), (1, .int (iI x)), (2, .int (iI y)), (3, .int (iI 0))] [] _ _ _ _
  have f_1 := (tyF_r (a := a) ho)
  refine C_y_join hW h203 f_1.2.2.2 ⟨by omega, by omega⟩ ⟨by omega, by omega⟩ (by decide) (fun s_1 a_1 c_1 v_1 g_1 b_1 => ?_)
  have e_1 := g_1.2.2.2
  obtain ⟨⟨_, _, _, _⟩, ⟨_, _, _, _⟩, ⟨_, _⟩, ⟨_, _⟩, ⟨_, _⟩⟩ := e_1
  obtain ⟨_, _⟩ := b_1
  show pm_E _ _ _ 7 [(0, .ref (pl 203)), (1, .int (iI x)), (2, .int (iI y))] [.int (iI v_1)] _ _ _ _
  refine pm_e_sim pm_a120_7 rfl ?_
  show pm_E _ _ _ 8 [(0, .ref (pl 203)), (1, .int (iI x)), (2, .int (iI y)), (3, .int (iI v_1))] [] _ _ _ _
  refine pm_e_sim pm_a120_8 rfl ?_
  refine pm_e_top (y := iI 0) (by decide +kernel) ?_
  show pm_E _ _ _ 9 [(0, .ref (pl 203)), (1, .int (iI x)), (2, .int (iI y)), (3, .int (iI v_1))] [.int (iI 0)] _ _ _ _
  refine pm_e_sim pm_a120_9 rfl ?_
  show pm_E _ _ _ 11 [(0, .ref (pl 203)), (1, .int (iI x)), (2, .int (iI y)), (3, .int (iI v_1)), (4, .int (iI 0))] [] _ _ _ _
  have f_2 := (tyF_t f_1 g_1)
  exact C_y_joinAll_l hW h203 2801 v_1 0 _ _ _ ⟨by omega, by omega⟩ (by omega) (by omega) f_2.2.2.2 (fun s2 a2 c2 f2 => k s2 a2 c2 (tyF_t f_2 f2)) (by omega)
set_option maxHeartbeats 4000000 in
set_option maxRecDepth 100000 in
theorem C_y_sides_l {d n : Nat} {kd pl : Nat → Nat} {M : List va_E} {Q : Option Value → List va_E → Nat → Nat → Prop} (hW : wf n kd pl) (h203 : al n kd pl 203) : ∀ (f : Nat) (i : Int) (s : Nat → Int) (a : Nat → Int → Int) (c : Nat → cdt), 0 ≤ i → i ≤ 2147483647 → tyO s c → (∀ s' a' c', tyF s a c s' a' c' → Q none (ch n kd pl s' a' c' M) 0 0) → 2147483647 - i < (f : Int) → pm_E none (d + 2) pm_mm131 6 [(0, .ref (pl 203)), (1, .int (iI i))] [] (ch n kd pl s a c M) 0 0 Q := by
  intro f
  induction f with
  | zero =>
    intro i s a c hi0 hi1 ho k hf
    exfalso; omega
  | succ f ih =>
    intro i s a c hi0 hi1 ho k hf
    obtain ⟨⟨_, _, _, _⟩, ⟨_, _, _, _⟩, ⟨_, _⟩, ⟨_, _⟩, ⟨_, _⟩⟩ := id ho
    have rb4 := rm_b 4
    have rb5 := rm_b 5
    refine pm_e_sim pm_a131_6 rfl ?_
    show pm_E _ _ _ 7 [(0, .ref (pl 203)), (1, .int (iI i))] [.int (iI i)] _ _ _ _
    refine pm_e_sim pm_a131_7 rfl ?_
    show pm_E _ _ _ 8 [(0, .ref (pl 203)), (1, .int (iI i))] [.ref (pl 203), .int (iI i)] _ _ _ _
    refine pm_i_get pm_a131_8 rfl (cg_203 hW h203) rfl ?_
    show pm_E _ _ _ 11 [(0, .ref (pl 203)), (1, .int (iI i))] [.int (iI (s 20)), .int (iI i)] _ _ _ _
    refine pm_c_ge (t := 69) pm_a131_11 rfl ⟨by omega, by omega⟩ ⟨by omega, by omega⟩ (fun h_1 => ?_) (fun h_1 => ?_)
    · skip
      show pm_E _ _ _ 69 [(0, .ref (pl 203)), (1, .int (iI i))] [] _ _ _ _
      refine pm_e_ret pm_a131_69 rfl rfl rfl rfl rfl rfl rfl rfl ?_
      exact k _ _ _ (tyF_r (a := a) ho)
    · skip
      show pm_E _ _ _ 14 [(0, .ref (pl 203)), (1, .int (iI i))] [] _ _ _ _
      refine pm_e_sim pm_a131_14 rfl ?_
      show pm_E _ _ _ 15 [(0, .ref (pl 203)), (1, .int (iI i))] [.ref (pl 203)] _ _ _ _
      refine pm_e_sim pm_a131_15 rfl ?_
      show pm_E _ _ _ 16 [(0, .ref (pl 203)), (1, .int (iI i))] [.int (iI i), .ref (pl 203)] _ _ _ _
      refine pm_i_callv (k := (pl 203)) (T2 := pm_mm122) pm_a131_16 rfl rfl rfl (cg_203 hW h203) ⟨Nat.le_of_ble_eq_true rfl, Nat.le_of_ble_eq_true rfl, rfl, by decide +kernel⟩ ?_
      show pm_E none _ _ 0 [(0, .ref (pl 203)), (1, .int (iI i))] [] _ _ _ _
      have f_2 := (tyF_r (a := a) ho)
      refine C_y_rootOf hW h203 f_2.2.2.2 ⟨by omega, by omega⟩ (fun s_2 a_2 c_2 v_2 g_2 b_2 => ?_)
      have e_2 := g_2.2.2.2
      obtain ⟨⟨_, _, _, _⟩, ⟨_, _, _, _⟩, ⟨_, _⟩, ⟨_, _⟩, ⟨_, _⟩⟩ := e_2
      obtain ⟨_, _⟩ := b_2
      show pm_E _ _ _ 19 [(0, .ref (pl 203)), (1, .int (iI i))] [.int (iI v_2)] _ _ _ _
      refine pm_e_sim pm_a131_19 rfl ?_
      show pm_E _ _ _ 20 [(0, .ref (pl 203)), (1, .int (iI i))] [.int (iI i), .int (iI v_2)] _ _ _ _
      refine pm_c_ne (t := 63) pm_a131_20 rfl ⟨by omega, by omega⟩ ⟨by omega, by omega⟩ (fun h_3 => ?_) (fun h_3 => ?_)
      · skip
        show pm_E _ _ _ 63 [(0, .ref (pl 203)), (1, .int (iI i))] [] _ _ _ _
        refine pm_e_inc (y := iI (i + 1)) pm_a131_63 rfl (iI_add _ _) (by decide +kernel) rfl ?_
        show pm_E _ _ _ 66 [(0, .ref (pl 203)), (1, .int (iI (i + 1)))] [] _ _ _ _
        refine pm_e_goto pm_a131_66 rfl ?_
        show pm_E _ _ _ 6 [(0, .ref (pl 203)), (1, .int (iI (i + 1)))] [] _ _ _ _
        have f_4 := (tyF_t f_2 g_2)
        exact ih (i + 1) _ _ _ (by omega) (by omega) f_4.2.2.2 (fun s2 a2 c2 f2 => k s2 a2 c2 (tyF_t f_4 f2)) (by omega)
      · skip
        show pm_E _ _ _ 23 [(0, .ref (pl 203)), (1, .int (iI i))] [] _ _ _ _
        refine pm_e_sim pm_a131_23 rfl ?_
        show pm_E _ _ _ 24 [(0, .ref (pl 203)), (1, .int (iI i))] [.ref (pl 203)] _ _ _ _
        refine pm_e_sim pm_a131_24 rfl ?_
        show pm_E _ _ _ 25 [(0, .ref (pl 203)), (1, .int (iI i))] [.int (iI i), .ref (pl 203)] _ _ _ _
        refine pm_i_callv (k := (pl 203)) (T2 := pm_mm124) pm_a131_25 rfl rfl rfl (cg_203 hW h203) ⟨Nat.le_of_ble_eq_true rfl, Nat.le_of_ble_eq_true rfl, rfl, by decide +kernel⟩ ?_
        show pm_E none _ _ 0 [(0, .ref (pl 203)), (1, .int (iI i))] [] _ _ _ _
        refine C_y_isArrow hW h203 ⟨by omega, by omega⟩ ?_ ?_
        · skip
          show pm_E _ _ _ 28 [(0, .ref (pl 203)), (1, .int (iI i))] [.int (iI 1)] _ _ _ _
          refine pm_e_iff pm_a131_28 rfl (by decide +kernel) ?_
          show pm_E _ _ _ 31 [(0, .ref (pl 203)), (1, .int (iI i))] [] _ _ _ _
          refine pm_e_sim pm_a131_31 rfl ?_
          show pm_E _ _ _ 32 [(0, .ref (pl 203)), (1, .int (iI i))] [.ref (pl 203)] _ _ _ _
          refine pm_e_sim pm_a131_32 rfl ?_
          show pm_E _ _ _ 33 [(0, .ref (pl 203)), (1, .int (iI i))] [.ref (pl 203), .ref (pl 203)] _ _ _ _
          refine pm_e_sim pm_a131_33 rfl ?_
          show pm_E _ _ _ 34 [(0, .ref (pl 203)), (1, .int (iI i))] [.ref (pl 203), .ref (pl 203), .ref (pl 203)] _ _ _ _
          refine pm_i_get pm_a131_34 rfl (cg_203 hW h203) rfl ?_
          show pm_E _ _ _ 37 [(0, .ref (pl 203)), (1, .int (iI i))] [.ref (pl 204), .ref (pl 203), .ref (pl 203)] _ _ _ _
          refine pm_e_sim pm_a131_37 rfl ?_
          show pm_E _ _ _ 38 [(0, .ref (pl 203)), (1, .int (iI i))] [.int (iI i), .ref (pl 204), .ref (pl 203), .ref (pl 203)] _ _ _ _
          refine pm_e_call (T2 := pm_mm123) pm_a131_38 rfl rfl rfl rfl rfl rfl rfl rfl rfl ?_
          show pm_E none _ _ 0 [(0, .ref (pl 204)), (1, .int (iI i))] [] _ _ _ _
          refine C_yat_204 hW h203 ⟨by omega, by omega⟩ (fun v_5 b_5 => ?_)
          obtain ⟨_, _⟩ := b_5
          show pm_E _ _ _ 41 [(0, .ref (pl 203)), (1, .int (iI i))] [.int (iI v_5), .ref (pl 203), .ref (pl 203)] _ _ _ _
          refine pm_i_callv (k := (pl 203)) (T2 := pm_mm122) pm_a131_41 rfl rfl rfl (cg_203 hW h203) ⟨Nat.le_of_ble_eq_true rfl, Nat.le_of_ble_eq_true rfl, rfl, by decide +kernel⟩ ?_
          show pm_E none _ _ 0 [(0, .ref (pl 203)), (1, .int (iI v_5))] [] _ _ _ _
          have f_6 := (tyF_t f_2 g_2)
          refine C_y_rootOf hW h203 f_6.2.2.2 ⟨by omega, by omega⟩ (fun s_6 a_6 c_6 v_6 g_6 b_6 => ?_)
          have e_6 := g_6.2.2.2
          obtain ⟨⟨_, _, _, _⟩, ⟨_, _, _, _⟩, ⟨_, _⟩, ⟨_, _⟩, ⟨_, _⟩⟩ := e_6
          obtain ⟨_, _⟩ := b_6
          show pm_E _ _ _ 44 [(0, .ref (pl 203)), (1, .int (iI i))] [.int (iI v_6), .ref (pl 203)] _ _ _ _
          refine pm_i_callv (k := (pl 203)) (T2 := pm_mm133) pm_a131_44 rfl rfl rfl (cg_203 hW h203) ⟨Nat.le_of_ble_eq_true rfl, Nat.le_of_ble_eq_true rfl, rfl, by decide +kernel⟩ ?_
          show pm_E none _ _ 0 [(0, .ref (pl 203)), (1, .int (iI v_6))] [] _ _ _ _
          have f_7 := (tyF_t f_6 g_6)
          refine C_y_countSide hW h203 f_7.2.2.2 ⟨by omega, by omega⟩ (fun s_7 a_7 c_7  g_7  => ?_)
          have e_7 := g_7.2.2.2
          obtain ⟨⟨_, _, _, _⟩, ⟨_, _, _, _⟩, ⟨_, _⟩, ⟨_, _⟩, ⟨_, _⟩⟩ := e_7
          show pm_E _ _ _ 47 [(0, .ref (pl 203)), (1, .int (iI i))] [] _ _ _ _
          refine pm_e_sim pm_a131_47 rfl ?_
          show pm_E _ _ _ 48 [(0, .ref (pl 203)), (1, .int (iI i))] [.ref (pl 203)] _ _ _ _
          refine pm_e_sim pm_a131_48 rfl ?_
          show pm_E _ _ _ 49 [(0, .ref (pl 203)), (1, .int (iI i))] [.ref (pl 203), .ref (pl 203)] _ _ _ _
          refine pm_e_sim pm_a131_49 rfl ?_
          show pm_E _ _ _ 50 [(0, .ref (pl 203)), (1, .int (iI i))] [.ref (pl 203), .ref (pl 203), .ref (pl 203)] _ _ _ _
          refine pm_i_get pm_a131_50 rfl (cg_203 hW h203) rfl ?_
          show pm_E _ _ _ 53 [(0, .ref (pl 203)), (1, .int (iI i))] [.ref (pl 205), .ref (pl 203), .ref (pl 203)] _ _ _ _
          refine pm_e_sim pm_a131_53 rfl ?_
          show pm_E _ _ _ 54 [(0, .ref (pl 203)), (1, .int (iI i))] [.int (iI i), .ref (pl 205), .ref (pl 203), .ref (pl 203)] _ _ _ _
          refine pm_e_call (T2 := pm_mm123) pm_a131_54 rfl rfl rfl rfl rfl rfl rfl rfl rfl ?_
          show pm_E none _ _ 0 [(0, .ref (pl 205)), (1, .int (iI i))] [] _ _ _ _
          refine C_yat_205 hW h203 ⟨by omega, by omega⟩ (fun v_8 b_8 => ?_)
          obtain ⟨_, _⟩ := b_8
          show pm_E _ _ _ 57 [(0, .ref (pl 203)), (1, .int (iI i))] [.int (iI v_8), .ref (pl 203), .ref (pl 203)] _ _ _ _
          refine pm_i_callv (k := (pl 203)) (T2 := pm_mm122) pm_a131_57 rfl rfl rfl (cg_203 hW h203) ⟨Nat.le_of_ble_eq_true rfl, Nat.le_of_ble_eq_true rfl, rfl, by decide +kernel⟩ ?_
          show pm_E none _ _ 0 [(0, .ref (pl 203)), (1, .int (iI v_8))] [] _ _ _ _
          have f_9 := (tyF_t f_7 g_7)
          refine C_y_rootOf hW h203 f_9.2.2.2 ⟨by omega, by omega⟩ (fun s_9 a_9 c_9 v_9 g_9 b_9 => ?_)
          have e_9 := g_9.2.2.2
          obtain ⟨⟨_, _, _, _⟩, ⟨_, _, _, _⟩, ⟨_, _⟩, ⟨_, _⟩, ⟨_, _⟩⟩ := e_9
          obtain ⟨_, _⟩ := b_9
          show pm_E _ _ _ 60 [(0, .ref (pl 203)), (1, .int (iI i))] [.int (iI v_9), .ref (pl 203)] _ _ _ _
          refine pm_i_callv (k := (pl 203)) (T2 := pm_mm133) pm_a131_60 rfl rfl rfl (cg_203 hW h203) ⟨Nat.le_of_ble_eq_true rfl, Nat.le_of_ble_eq_true rfl, rfl, by decide +kernel⟩ ?_
          show pm_E none _ _ 0 [(0, .ref (pl 203)), (1, .int (iI v_9))] [] _ _ _ _
          have f_10 := (tyF_t f_9 g_9)
          refine C_y_countSide hW h203 f_10.2.2.2 ⟨by omega, by omega⟩ (fun s_10 a_10 c_10  g_10  => ?_)
          have e_10 := g_10.2.2.2
          obtain ⟨⟨_, _, _, _⟩, ⟨_, _, _, _⟩, ⟨_, _⟩, ⟨_, _⟩, ⟨_, _⟩⟩ := e_10
          show pm_E _ _ _ 63 [(0, .ref (pl 203)), (1, .int (iI i))] [] _ _ _ _
          refine pm_e_inc (y := iI (i + 1)) pm_a131_63 rfl (iI_add _ _) (by decide +kernel) rfl ?_
          show pm_E _ _ _ 66 [(0, .ref (pl 203)), (1, .int (iI (i + 1)))] [] _ _ _ _
          refine pm_e_goto pm_a131_66 rfl ?_
          show pm_E _ _ _ 6 [(0, .ref (pl 203)), (1, .int (iI (i + 1)))] [] _ _ _ _
          have f_11 := (tyF_t f_10 g_10)
          exact ih (i + 1) _ _ _ (by omega) (by omega) f_11.2.2.2 (fun s2 a2 c2 f2 => k s2 a2 c2 (tyF_t f_11 f2)) (by omega)
        · skip
          show pm_E _ _ _ 28 [(0, .ref (pl 203)), (1, .int (iI i))] [.int (iI 0)] _ _ _ _
          refine pm_e_ift pm_a131_28 rfl (by decide +kernel) ?_
          show pm_E _ _ _ 63 [(0, .ref (pl 203)), (1, .int (iI i))] [] _ _ _ _
          refine pm_e_inc (y := iI (i + 1)) pm_a131_63 rfl (iI_add _ _) (by decide +kernel) rfl ?_
          show pm_E _ _ _ 66 [(0, .ref (pl 203)), (1, .int (iI (i + 1)))] [] _ _ _ _
          refine pm_e_goto pm_a131_66 rfl ?_
          show pm_E _ _ _ 6 [(0, .ref (pl 203)), (1, .int (iI (i + 1)))] [] _ _ _ _
          have f_12 := (tyF_t f_2 g_2)
          exact ih (i + 1) _ _ _ (by omega) (by omega) f_12.2.2.2 (fun s2 a2 c2 f2 => k s2 a2 c2 (tyF_t f_12 f2)) (by omega)
set_option maxHeartbeats 4000000 in
set_option maxRecDepth 100000 in
theorem C_y_countSides {d n : Nat} {kd pl : Nat → Nat} {s : Nat → Int} {a : Nat → Int → Int} {c : Nat → cdt} {M : List va_E} {Q : Option Value → List va_E → Nat → Nat → Prop} (hW : wf n kd pl) (h203 : al n kd pl 203) (ho : tyO s c)  (k : ∀ s' a' c', tyF s a c s' a' c' → Q none (ch n kd pl s' a' c' M) 0 0) : pm_E none (d + 2) pm_mm131 0 [(0, .ref (pl 203))] [] (ch n kd pl s a c M) 0 0 Q := by
  obtain ⟨⟨_, _, _, _⟩, ⟨_, _, _, _⟩, ⟨_, _⟩, ⟨_, _⟩, ⟨_, _⟩⟩ := id ho
  have rb4 := rm_b 4
  have rb5 := rm_b 5
  refine pm_e_sim pm_a131_0 rfl ?_
  show pm_E _ _ _ 1 [(0, .ref (pl 203))] [.ref (pl 203)] _ _ _ _
  refine pm_i_callv (k := (pl 203)) (T2 := pm_mm132) pm_a131_1 rfl rfl rfl (cg_203 hW h203) ⟨Nat.le_of_ble_eq_true rfl, Nat.le_of_ble_eq_true rfl, rfl, by decide +kernel⟩ ?_
  show pm_E none _ _ 0 [(0, .ref (pl 203))] [] _ _ _ _
  have f_1 := (tyF_r (a := a) ho)
  refine C_y_clearMarks hW h203 f_1.2.2.2  (fun s_1 a_1 c_1  g_1  => ?_)
  have e_1 := g_1.2.2.2
  obtain ⟨⟨_, _, _, _⟩, ⟨_, _, _, _⟩, ⟨_, _⟩, ⟨_, _⟩, ⟨_, _⟩⟩ := e_1
  show pm_E _ _ _ 4 [(0, .ref (pl 203))] [] _ _ _ _
  refine pm_e_sim pm_a131_4 rfl ?_
  refine pm_e_top (y := iI 0) (by decide +kernel) ?_
  show pm_E _ _ _ 5 [(0, .ref (pl 203))] [.int (iI 0)] _ _ _ _
  refine pm_e_sim pm_a131_5 rfl ?_
  show pm_E _ _ _ 6 [(0, .ref (pl 203)), (1, .int (iI 0))] [] _ _ _ _
  have f_2 := (tyF_t f_1 g_1)
  exact C_y_sides_l hW h203 2147483648 0 _ _ _ (by omega) (by omega) f_2.2.2.2 (fun s2 a2 c2 f2 => k s2 a2 c2 (tyF_t f_2 f2)) (by omega)
set_option maxHeartbeats 4000000 in
set_option maxRecDepth 100000 in
theorem C_y_circ2_l {d n : Nat} {kd pl : Nat → Nat} {M : List va_E} {Q : Option Value → List va_E → Nat → Nat → Prop} (hW : wf n kd pl) (h203 : al n kd pl 203) : ∀ (f : Nat) (m q i : Int) (s : Nat → Int) (a : Nat → Int → Int) (c : Nat → cdt), in32 m → in32 q → 0 ≤ i → i ≤ 2800 → tyO s c → (∀ s' a' c' r, tyF s a c s' a' c' → in32 r → Q (some (.int (iI r))) (ch n kd pl s' a' c' M) 0 0) → 2800 - i < (f : Int) → pm_E none (d + 3) pm_mm130 60 [(0, .ref (pl 203)), (1, .int (iI m)), (2, .int (iI q)), (3, .int (iI i))] [] (ch n kd pl s a c M) 0 0 Q := by
  intro f
  induction f with
  | zero =>
    intro m q i s a c hr_m hr_q hi0 hi1 ho k hf
    exfalso; omega
  | succ f ih =>
    intro m q i s a c hr_m hr_q hi0 hi1 ho k hf
    obtain ⟨⟨_, _, _, _⟩, ⟨_, _, _, _⟩, ⟨_, _⟩, ⟨_, _⟩, ⟨_, _⟩⟩ := id ho
    have rb4 := rm_b 4
    have rb5 := rm_b 5
    obtain ⟨_, _⟩ := id hr_m
    obtain ⟨_, _⟩ := id hr_q
    refine pm_e_sim pm_a130_60 rfl ?_
    show pm_E _ _ _ 61 [(0, .ref (pl 203)), (1, .int (iI m)), (2, .int (iI q)), (3, .int (iI i))] [.int (iI i)] _ _ _ _
    refine pm_e_sim pm_a130_61 rfl ?_
    show pm_E _ _ _ 62 [(0, .ref (pl 203)), (1, .int (iI m)), (2, .int (iI q)), (3, .int (iI i))] [.int (iI q), .int (iI i)] _ _ _ _
    refine pm_c_ge (t := 135) pm_a130_62 rfl ⟨by omega, by omega⟩ ⟨by omega, by omega⟩ (fun h_1 => ?_) (fun h_1 => ?_)
    · skip
      show pm_E _ _ _ 135 [(0, .ref (pl 203)), (1, .int (iI m)), (2, .int (iI q)), (3, .int (iI i))] [] _ _ _ _
      refine pm_e_sim pm_a130_135 rfl ?_
      show pm_E _ _ _ 136 [(0, .ref (pl 203)), (1, .int (iI m)), (2, .int (iI q)), (3, .int (iI i))] [.int (iI q)] _ _ _ _
      refine pm_e_sim pm_a130_136 rfl ?_
      show pm_E _ _ _ 137 [(0, .ref (pl 203)), (1, .int (iI m)), (2, .int (iI q)), (3, .int (iI i))] [.int (iI m), .int (iI q)] _ _ _ _
      refine pm_c_ge (t := 144) pm_a130_137 rfl ⟨by omega, by omega⟩ ⟨by omega, by omega⟩ (fun h_2 => ?_) (fun h_2 => ?_)
      · skip
        show pm_E _ _ _ 144 [(0, .ref (pl 203)), (1, .int (iI m)), (2, .int (iI q)), (3, .int (iI i))] [] _ _ _ _
        refine pm_e_sim pm_a130_144 rfl ?_
        refine pm_e_top (y := iI 0) (by decide +kernel) ?_
        show pm_E _ _ _ 145 [(0, .ref (pl 203)), (1, .int (iI m)), (2, .int (iI q)), (3, .int (iI i))] [.int (iI 0)] _ _ _ _
        refine pm_e_ret pm_a130_145 rfl rfl rfl rfl rfl rfl rfl rfl ?_
        exact k _ _ _ _ (tyF_r (a := a) ho) (by decide)
      · skip
        show pm_E _ _ _ 140 [(0, .ref (pl 203)), (1, .int (iI m)), (2, .int (iI q)), (3, .int (iI i))] [] _ _ _ _
        refine pm_e_sim pm_a130_140 rfl ?_
        refine pm_e_top (y := iI 1) (by decide +kernel) ?_
        show pm_E _ _ _ 141 [(0, .ref (pl 203)), (1, .int (iI m)), (2, .int (iI q)), (3, .int (iI i))] [.int (iI 1)] _ _ _ _
        refine pm_e_goto pm_a130_141 rfl ?_
        show pm_E _ _ _ 145 [(0, .ref (pl 203)), (1, .int (iI m)), (2, .int (iI q)), (3, .int (iI i))] [.int (iI 1)] _ _ _ _
        refine pm_e_ret pm_a130_145 rfl rfl rfl rfl rfl rfl rfl rfl ?_
        exact k _ _ _ _ (tyF_r (a := a) ho) (by decide)
    · skip
      show pm_E _ _ _ 65 [(0, .ref (pl 203)), (1, .int (iI m)), (2, .int (iI q)), (3, .int (iI i))] [] _ _ _ _
      refine pm_e_sim pm_a130_65 rfl ?_
      show pm_E _ _ _ 66 [(0, .ref (pl 203)), (1, .int (iI m)), (2, .int (iI q)), (3, .int (iI i))] [.int (iI i)] _ _ _ _
      refine pm_e_sim pm_a130_66 rfl ?_
      refine pm_e_top (y := iI 2800) (by decide +kernel) ?_
      show pm_E _ _ _ 69 [(0, .ref (pl 203)), (1, .int (iI m)), (2, .int (iI q)), (3, .int (iI i))] [.int (iI 2800), .int (iI i)] _ _ _ _
      refine pm_c_ge (t := 135) pm_a130_69 rfl ⟨by omega, by omega⟩ ⟨by omega, by omega⟩ (fun h_3 => ?_) (fun h_3 => ?_)
      · skip
        show pm_E _ _ _ 135 [(0, .ref (pl 203)), (1, .int (iI m)), (2, .int (iI q)), (3, .int (iI i))] [] _ _ _ _
        refine pm_e_sim pm_a130_135 rfl ?_
        show pm_E _ _ _ 136 [(0, .ref (pl 203)), (1, .int (iI m)), (2, .int (iI q)), (3, .int (iI i))] [.int (iI q)] _ _ _ _
        refine pm_e_sim pm_a130_136 rfl ?_
        show pm_E _ _ _ 137 [(0, .ref (pl 203)), (1, .int (iI m)), (2, .int (iI q)), (3, .int (iI i))] [.int (iI m), .int (iI q)] _ _ _ _
        refine pm_c_ge (t := 144) pm_a130_137 rfl ⟨by omega, by omega⟩ ⟨by omega, by omega⟩ (fun h_4 => ?_) (fun h_4 => ?_)
        · skip
          show pm_E _ _ _ 144 [(0, .ref (pl 203)), (1, .int (iI m)), (2, .int (iI q)), (3, .int (iI i))] [] _ _ _ _
          refine pm_e_sim pm_a130_144 rfl ?_
          refine pm_e_top (y := iI 0) (by decide +kernel) ?_
          show pm_E _ _ _ 145 [(0, .ref (pl 203)), (1, .int (iI m)), (2, .int (iI q)), (3, .int (iI i))] [.int (iI 0)] _ _ _ _
          refine pm_e_ret pm_a130_145 rfl rfl rfl rfl rfl rfl rfl rfl ?_
          exact k _ _ _ _ (tyF_r (a := a) ho) (by decide)
        · skip
          show pm_E _ _ _ 140 [(0, .ref (pl 203)), (1, .int (iI m)), (2, .int (iI q)), (3, .int (iI i))] [] _ _ _ _
          refine pm_e_sim pm_a130_140 rfl ?_
          refine pm_e_top (y := iI 1) (by decide +kernel) ?_
          show pm_E _ _ _ 141 [(0, .ref (pl 203)), (1, .int (iI m)), (2, .int (iI q)), (3, .int (iI i))] [.int (iI 1)] _ _ _ _
          refine pm_e_goto pm_a130_141 rfl ?_
          show pm_E _ _ _ 145 [(0, .ref (pl 203)), (1, .int (iI m)), (2, .int (iI q)), (3, .int (iI i))] [.int (iI 1)] _ _ _ _
          refine pm_e_ret pm_a130_145 rfl rfl rfl rfl rfl rfl rfl rfl ?_
          exact k _ _ _ _ (tyF_r (a := a) ho) (by decide)
      · skip
        show pm_E _ _ _ 72 [(0, .ref (pl 203)), (1, .int (iI m)), (2, .int (iI q)), (3, .int (iI i))] [] _ _ _ _
        refine pm_e_sim pm_a130_72 rfl ?_
        show pm_E _ _ _ 73 [(0, .ref (pl 203)), (1, .int (iI m)), (2, .int (iI q)), (3, .int (iI i))] [.ref (pl 203)] _ _ _ _
        refine pm_i_get pm_a130_73 rfl (cg_203 hW h203) rfl ?_
        show pm_E _ _ _ 76 [(0, .ref (pl 203)), (1, .int (iI m)), (2, .int (iI q)), (3, .int (iI i))] [.ref (pl 207)] _ _ _ _
        refine pm_e_sim pm_a130_76 rfl ?_
        show pm_E _ _ _ 77 [(0, .ref (pl 203)), (1, .int (iI m)), (2, .int (iI q)), (3, .int (iI i))] [.int (iI i), .ref (pl 207)] _ _ _ _
        refine pm_e_call (T2 := pm_mm123) pm_a130_77 rfl rfl rfl rfl rfl rfl rfl rfl rfl ?_
        show pm_E none _ _ 0 [(0, .ref (pl 207)), (1, .int (iI i))] [] _ _ _ _
        refine C_yat_207 hW h203 ⟨by omega, by omega⟩ (fun v_5 b_5 => ?_)
        obtain ⟨_, _⟩ := b_5
        show pm_E _ _ _ 80 [(0, .ref (pl 203)), (1, .int (iI m)), (2, .int (iI q)), (3, .int (iI i))] [.int (iI v_5)] _ _ _ _
        refine pm_e_sim pm_a130_80 rfl ?_
        show pm_E _ _ _ 82 [(0, .ref (pl 203)), (1, .int (iI m)), (2, .int (iI q)), (3, .int (iI i)), (4, .int (iI v_5))] [] _ _ _ _
        refine pm_e_sim pm_a130_82 rfl ?_
        show pm_E _ _ _ 83 [(0, .ref (pl 203)), (1, .int (iI m)), (2, .int (iI q)), (3, .int (iI i)), (4, .int (iI v_5))] [.ref (pl 203)] _ _ _ _
        refine pm_e_sim pm_a130_83 rfl ?_
        show pm_E _ _ _ 85 [(0, .ref (pl 203)), (1, .int (iI m)), (2, .int (iI q)), (3, .int (iI i)), (4, .int (iI v_5))] [.int (iI v_5), .ref (pl 203)] _ _ _ _
        refine pm_i_callv (k := (pl 203)) (T2 := pm_mm124) pm_a130_85 rfl rfl rfl (cg_203 hW h203) ⟨Nat.le_of_ble_eq_true rfl, Nat.le_of_ble_eq_true rfl, rfl, by decide +kernel⟩ ?_
        show pm_E none _ _ 0 [(0, .ref (pl 203)), (1, .int (iI v_5))] [] _ _ _ _
        refine C_y_isArrow hW h203 ⟨by omega, by omega⟩ ?_ ?_
        · skip
          show pm_E _ _ _ 88 [(0, .ref (pl 203)), (1, .int (iI m)), (2, .int (iI q)), (3, .int (iI i)), (4, .int (iI v_5))] [.int (iI 1)] _ _ _ _
          refine pm_e_iff pm_a130_88 rfl (by decide +kernel) ?_
          show pm_E _ _ _ 91 [(0, .ref (pl 203)), (1, .int (iI m)), (2, .int (iI q)), (3, .int (iI i)), (4, .int (iI v_5))] [] _ _ _ _
          refine pm_e_sim pm_a130_91 rfl ?_
          show pm_E _ _ _ 92 [(0, .ref (pl 203)), (1, .int (iI m)), (2, .int (iI q)), (3, .int (iI i)), (4, .int (iI v_5))] [.ref (pl 203)] _ _ _ _
          refine pm_e_sim pm_a130_92 rfl ?_
          show pm_E _ _ _ 93 [(0, .ref (pl 203)), (1, .int (iI m)), (2, .int (iI q)), (3, .int (iI i)), (4, .int (iI v_5))] [.ref (pl 203), .ref (pl 203)] _ _ _ _
          refine pm_e_sim pm_a130_93 rfl ?_
          show pm_E _ _ _ 94 [(0, .ref (pl 203)), (1, .int (iI m)), (2, .int (iI q)), (3, .int (iI i)), (4, .int (iI v_5))] [.ref (pl 203), .ref (pl 203), .ref (pl 203)] _ _ _ _
          refine pm_i_get pm_a130_94 rfl (cg_203 hW h203) rfl ?_
          show pm_E _ _ _ 97 [(0, .ref (pl 203)), (1, .int (iI m)), (2, .int (iI q)), (3, .int (iI i)), (4, .int (iI v_5))] [.ref (pl 204), .ref (pl 203), .ref (pl 203)] _ _ _ _
          refine pm_e_sim pm_a130_97 rfl ?_
          show pm_E _ _ _ 99 [(0, .ref (pl 203)), (1, .int (iI m)), (2, .int (iI q)), (3, .int (iI i)), (4, .int (iI v_5))] [.int (iI v_5), .ref (pl 204), .ref (pl 203), .ref (pl 203)] _ _ _ _
          refine pm_e_call (T2 := pm_mm123) pm_a130_99 rfl rfl rfl rfl rfl rfl rfl rfl rfl ?_
          show pm_E none _ _ 0 [(0, .ref (pl 204)), (1, .int (iI v_5))] [] _ _ _ _
          refine C_yat_204 hW h203 ⟨by omega, by omega⟩ (fun v_6 b_6 => ?_)
          obtain ⟨_, _⟩ := b_6
          show pm_E _ _ _ 102 [(0, .ref (pl 203)), (1, .int (iI m)), (2, .int (iI q)), (3, .int (iI i)), (4, .int (iI v_5))] [.int (iI v_6), .ref (pl 203), .ref (pl 203)] _ _ _ _
          refine pm_i_callv (k := (pl 203)) (T2 := pm_mm122) pm_a130_102 rfl rfl rfl (cg_203 hW h203) ⟨Nat.le_of_ble_eq_true rfl, Nat.le_of_ble_eq_true rfl, rfl, by decide +kernel⟩ ?_
          show pm_E none _ _ 0 [(0, .ref (pl 203)), (1, .int (iI v_6))] [] _ _ _ _
          have f_7 := (tyF_r (a := a) ho)
          refine C_y_rootOf hW h203 f_7.2.2.2 ⟨by omega, by omega⟩ (fun s_7 a_7 c_7 v_7 g_7 b_7 => ?_)
          have e_7 := g_7.2.2.2
          obtain ⟨⟨_, _, _, _⟩, ⟨_, _, _, _⟩, ⟨_, _⟩, ⟨_, _⟩, ⟨_, _⟩⟩ := e_7
          obtain ⟨_, _⟩ := b_7
          show pm_E _ _ _ 105 [(0, .ref (pl 203)), (1, .int (iI m)), (2, .int (iI q)), (3, .int (iI i)), (4, .int (iI v_5))] [.int (iI v_7), .ref (pl 203)] _ _ _ _
          refine pm_e_sim pm_a130_105 rfl ?_
          show pm_E _ _ _ 106 [(0, .ref (pl 203)), (1, .int (iI m)), (2, .int (iI q)), (3, .int (iI i)), (4, .int (iI v_5))] [.int (iI q), .int (iI v_7), .ref (pl 203)] _ _ _ _
          refine pm_i_callv (k := (pl 203)) (T2 := pm_mm134) pm_a130_106 rfl rfl rfl (cg_203 hW h203) ⟨Nat.le_of_ble_eq_true rfl, Nat.le_of_ble_eq_true rfl, rfl, by decide +kernel⟩ ?_
          show pm_E none _ _ 0 [(0, .ref (pl 203)), (1, .int (iI v_7)), (2, .int (iI q))] [] _ _ _ _
          have f_8 := (tyF_t f_7 g_7)
          refine C_y_release hW h203 f_8.2.2.2 ⟨by omega, by omega⟩ ⟨by omega, by omega⟩ (fun s_8 a_8 c_8 v_8 g_8 b_8 => ?_)
          have e_8 := g_8.2.2.2
          obtain ⟨⟨_, _, _, _⟩, ⟨_, _, _, _⟩, ⟨_, _⟩, ⟨_, _⟩, ⟨_, _⟩⟩ := e_8
          obtain ⟨_, _⟩ := b_8
          show pm_E _ _ _ 109 [(0, .ref (pl 203)), (1, .int (iI m)), (2, .int (iI q)), (3, .int (iI i)), (4, .int (iI v_5))] [.int (iI v_8)] _ _ _ _
          refine pm_e_sim pm_a130_109 rfl ?_
          show pm_E _ _ _ 110 [(0, .ref (pl 203)), (1, .int (iI m)), (2, .int (iI v_8)), (3, .int (iI i)), (4, .int (iI v_5))] [] _ _ _ _
          refine pm_e_sim pm_a130_110 rfl ?_
          show pm_E _ _ _ 111 [(0, .ref (pl 203)), (1, .int (iI m)), (2, .int (iI v_8)), (3, .int (iI i)), (4, .int (iI v_5))] [.ref (pl 203)] _ _ _ _
          refine pm_e_sim pm_a130_111 rfl ?_
          show pm_E _ _ _ 112 [(0, .ref (pl 203)), (1, .int (iI m)), (2, .int (iI v_8)), (3, .int (iI i)), (4, .int (iI v_5))] [.ref (pl 203), .ref (pl 203)] _ _ _ _
          refine pm_e_sim pm_a130_112 rfl ?_
          show pm_E _ _ _ 113 [(0, .ref (pl 203)), (1, .int (iI m)), (2, .int (iI v_8)), (3, .int (iI i)), (4, .int (iI v_5))] [.ref (pl 203), .ref (pl 203), .ref (pl 203)] _ _ _ _
          refine pm_i_get pm_a130_113 rfl (cg_203 hW h203) rfl ?_
          show pm_E _ _ _ 116 [(0, .ref (pl 203)), (1, .int (iI m)), (2, .int (iI v_8)), (3, .int (iI i)), (4, .int (iI v_5))] [.ref (pl 205), .ref (pl 203), .ref (pl 203)] _ _ _ _
          refine pm_e_sim pm_a130_116 rfl ?_
          show pm_E _ _ _ 118 [(0, .ref (pl 203)), (1, .int (iI m)), (2, .int (iI v_8)), (3, .int (iI i)), (4, .int (iI v_5))] [.int (iI v_5), .ref (pl 205), .ref (pl 203), .ref (pl 203)] _ _ _ _
          refine pm_e_call (T2 := pm_mm123) pm_a130_118 rfl rfl rfl rfl rfl rfl rfl rfl rfl ?_
          show pm_E none _ _ 0 [(0, .ref (pl 205)), (1, .int (iI v_5))] [] _ _ _ _
          refine C_yat_205 hW h203 ⟨by omega, by omega⟩ (fun v_9 b_9 => ?_)
          obtain ⟨_, _⟩ := b_9
          show pm_E _ _ _ 121 [(0, .ref (pl 203)), (1, .int (iI m)), (2, .int (iI v_8)), (3, .int (iI i)), (4, .int (iI v_5))] [.int (iI v_9), .ref (pl 203), .ref (pl 203)] _ _ _ _
          refine pm_i_callv (k := (pl 203)) (T2 := pm_mm122) pm_a130_121 rfl rfl rfl (cg_203 hW h203) ⟨Nat.le_of_ble_eq_true rfl, Nat.le_of_ble_eq_true rfl, rfl, by decide +kernel⟩ ?_
          show pm_E none _ _ 0 [(0, .ref (pl 203)), (1, .int (iI v_9))] [] _ _ _ _
          have f_10 := (tyF_t f_8 g_8)
          refine C_y_rootOf hW h203 f_10.2.2.2 ⟨by omega, by omega⟩ (fun s_10 a_10 c_10 v_10 g_10 b_10 => ?_)
          have e_10 := g_10.2.2.2
          obtain ⟨⟨_, _, _, _⟩, ⟨_, _, _, _⟩, ⟨_, _⟩, ⟨_, _⟩, ⟨_, _⟩⟩ := e_10
          obtain ⟨_, _⟩ := b_10
          show pm_E _ _ _ 124 [(0, .ref (pl 203)), (1, .int (iI m)), (2, .int (iI v_8)), (3, .int (iI i)), (4, .int (iI v_5))] [.int (iI v_10), .ref (pl 203)] _ _ _ _
          refine pm_e_sim pm_a130_124 rfl ?_
          show pm_E _ _ _ 125 [(0, .ref (pl 203)), (1, .int (iI m)), (2, .int (iI v_8)), (3, .int (iI i)), (4, .int (iI v_5))] [.int (iI v_8), .int (iI v_10), .ref (pl 203)] _ _ _ _
          refine pm_i_callv (k := (pl 203)) (T2 := pm_mm134) pm_a130_125 rfl rfl rfl (cg_203 hW h203) ⟨Nat.le_of_ble_eq_true rfl, Nat.le_of_ble_eq_true rfl, rfl, by decide +kernel⟩ ?_
          show pm_E none _ _ 0 [(0, .ref (pl 203)), (1, .int (iI v_10)), (2, .int (iI v_8))] [] _ _ _ _
          have f_11 := (tyF_t f_10 g_10)
          refine C_y_release hW h203 f_11.2.2.2 ⟨by omega, by omega⟩ ⟨by omega, by omega⟩ (fun s_11 a_11 c_11 v_11 g_11 b_11 => ?_)
          have e_11 := g_11.2.2.2
          obtain ⟨⟨_, _, _, _⟩, ⟨_, _, _, _⟩, ⟨_, _⟩, ⟨_, _⟩, ⟨_, _⟩⟩ := e_11
          obtain ⟨_, _⟩ := b_11
          show pm_E _ _ _ 128 [(0, .ref (pl 203)), (1, .int (iI m)), (2, .int (iI v_8)), (3, .int (iI i)), (4, .int (iI v_5))] [.int (iI v_11)] _ _ _ _
          refine pm_e_sim pm_a130_128 rfl ?_
          show pm_E _ _ _ 129 [(0, .ref (pl 203)), (1, .int (iI m)), (2, .int (iI v_11)), (3, .int (iI i)), (4, .int (iI v_5))] [] _ _ _ _
          refine pm_e_inc (y := iI (i + 1)) pm_a130_129 rfl (iI_add _ _) (by decide +kernel) rfl ?_
          show pm_E _ _ _ 132 [(0, .ref (pl 203)), (1, .int (iI m)), (2, .int (iI v_11)), (3, .int (iI (i + 1))), (4, .int (iI v_5))] [] _ _ _ _
          refine pm_e_goto pm_a130_132 rfl ?_
          show pm_E _ _ _ 60 [(0, .ref (pl 203)), (1, .int (iI m)), (2, .int (iI v_11)), (3, .int (iI (i + 1))), (4, .int (iI v_5))] [] _ _ _ _
          show pm_E _ _ _ 60 ([(0, .ref (pl 203)), (1, .int (iI m)), (2, .int (iI v_11)), (3, .int (iI (i + 1)))] ++ [(4, .int (iI v_5))]) [] _ _ _ _
          refine pm_e_more [(4, .int (iI v_5))] (show ([0, 1, 2, 3, 4] : List Nat).Nodup from by decide) ?_
          have f_12 := (tyF_t f_11 g_11)
          exact ih m v_11 (i + 1) _ _ _ ⟨by omega, by omega⟩ ⟨by omega, by omega⟩ (by omega) (by omega) f_12.2.2.2 (fun s2 a2 c2 r f2 b2 => k s2 a2 c2 r (tyF_t f_12 f2) b2) (by omega)
        · skip
          show pm_E _ _ _ 88 [(0, .ref (pl 203)), (1, .int (iI m)), (2, .int (iI q)), (3, .int (iI i)), (4, .int (iI v_5))] [.int (iI 0)] _ _ _ _
          refine pm_e_ift pm_a130_88 rfl (by decide +kernel) ?_
          show pm_E _ _ _ 129 [(0, .ref (pl 203)), (1, .int (iI m)), (2, .int (iI q)), (3, .int (iI i)), (4, .int (iI v_5))] [] _ _ _ _
          refine pm_e_inc (y := iI (i + 1)) pm_a130_129 rfl (iI_add _ _) (by decide +kernel) rfl ?_
          show pm_E _ _ _ 132 [(0, .ref (pl 203)), (1, .int (iI m)), (2, .int (iI q)), (3, .int (iI (i + 1))), (4, .int (iI v_5))] [] _ _ _ _
          refine pm_e_goto pm_a130_132 rfl ?_
          show pm_E _ _ _ 60 [(0, .ref (pl 203)), (1, .int (iI m)), (2, .int (iI q)), (3, .int (iI (i + 1))), (4, .int (iI v_5))] [] _ _ _ _
          show pm_E _ _ _ 60 ([(0, .ref (pl 203)), (1, .int (iI m)), (2, .int (iI q)), (3, .int (iI (i + 1)))] ++ [(4, .int (iI v_5))]) [] _ _ _ _
          refine pm_e_more [(4, .int (iI v_5))] (show ([0, 1, 2, 3, 4] : List Nat).Nodup from by decide) ?_
          have f_13 := (tyF_r (a := a) ho)
          exact ih m q (i + 1) _ _ _ ⟨by omega, by omega⟩ ⟨by omega, by omega⟩ (by omega) (by omega) f_13.2.2.2 (fun s2 a2 c2 r f2 b2 => k s2 a2 c2 r (tyF_t f_13 f2) b2) (by omega)
set_option maxHeartbeats 4000000 in
set_option maxRecDepth 100000 in
theorem C_y_circ1_l {d n : Nat} {kd pl : Nat → Nat} {M : List va_E} {Q : Option Value → List va_E → Nat → Nat → Prop} (hW : wf n kd pl) (h203 : al n kd pl 203) : ∀ (f : Nat) (m q i : Int) (s : Nat → Int) (a : Nat → Int → Int) (c : Nat → cdt), 0 ≤ m → m ≤ i → in32 q → i ≤ 2147483647 → tyO s c → (∀ s' a' c' r, tyF s a c s' a' c' → in32 r → Q (some (.int (iI r))) (ch n kd pl s' a' c' M) 0 0) → 2147483647 - i < (f : Int) → pm_E none (d + 3) pm_mm130 10 [(0, .ref (pl 203)), (1, .int (iI m)), (2, .int (iI q)), (3, .int (iI i))] [] (ch n kd pl s a c M) 0 0 Q := by
  intro f
  induction f with
  | zero =>
    intro m q i s a c hm0 hm1 hr_q hi1 ho k hf
    exfalso; omega
  | succ f ih =>
    intro m q i s a c hm0 hm1 hr_q hi1 ho k hf
    obtain ⟨⟨_, _, _, _⟩, ⟨_, _, _, _⟩, ⟨_, _⟩, ⟨_, _⟩, ⟨_, _⟩⟩ := id ho
    have rb4 := rm_b 4
    have rb5 := rm_b 5
    obtain ⟨_, _⟩ := id hr_q
    refine pm_e_sim pm_a130_10 rfl ?_
    show pm_E _ _ _ 11 [(0, .ref (pl 203)), (1, .int (iI m)), (2, .int (iI q)), (3, .int (iI i))] [.int (iI i)] _ _ _ _
    refine pm_e_sim pm_a130_11 rfl ?_
    show pm_E _ _ _ 12 [(0, .ref (pl 203)), (1, .int (iI m)), (2, .int (iI q)), (3, .int (iI i))] [.ref (pl 203), .int (iI i)] _ _ _ _
    refine pm_i_get pm_a130_12 rfl (cg_203 hW h203) rfl ?_
    show pm_E _ _ _ 15 [(0, .ref (pl 203)), (1, .int (iI m)), (2, .int (iI q)), (3, .int (iI i))] [.int (iI (s 20)), .int (iI i)] _ _ _ _
    refine pm_c_ge (t := 58) pm_a130_15 rfl ⟨by omega, by omega⟩ ⟨by omega, by omega⟩ (fun h_1 => ?_) (fun h_1 => ?_)
    · skip
      show pm_E _ _ _ 58 [(0, .ref (pl 203)), (1, .int (iI m)), (2, .int (iI q)), (3, .int (iI i))] [] _ _ _ _
      refine pm_e_sim pm_a130_58 rfl ?_
      refine pm_e_top (y := iI 0) (by decide +kernel) ?_
      show pm_E _ _ _ 59 [(0, .ref (pl 203)), (1, .int (iI m)), (2, .int (iI q)), (3, .int (iI i))] [.int (iI 0)] _ _ _ _
      refine pm_e_sim pm_a130_59 rfl ?_
      show pm_E _ _ _ 60 [(0, .ref (pl 203)), (1, .int (iI m)), (2, .int (iI q)), (3, .int (iI 0))] [] _ _ _ _
      have f_2 := (tyF_r (a := a) ho)
      exact C_y_circ2_l hW h203 2801 m q 0 _ _ _ ⟨by omega, by omega⟩ ⟨by omega, by omega⟩ (by omega) (by omega) f_2.2.2.2 (fun s2 a2 c2 r f2 b2 => k s2 a2 c2 r (tyF_t f_2 f2) b2) (by omega)
    · skip
      show pm_E _ _ _ 18 [(0, .ref (pl 203)), (1, .int (iI m)), (2, .int (iI q)), (3, .int (iI i))] [] _ _ _ _
      refine pm_e_sim pm_a130_18 rfl ?_
      show pm_E _ _ _ 19 [(0, .ref (pl 203)), (1, .int (iI m)), (2, .int (iI q)), (3, .int (iI i))] [.ref (pl 203)] _ _ _ _
      refine pm_e_sim pm_a130_19 rfl ?_
      show pm_E _ _ _ 20 [(0, .ref (pl 203)), (1, .int (iI m)), (2, .int (iI q)), (3, .int (iI i))] [.int (iI i), .ref (pl 203)] _ _ _ _
      refine pm_i_callv (k := (pl 203)) (T2 := pm_mm122) pm_a130_20 rfl rfl rfl (cg_203 hW h203) ⟨Nat.le_of_ble_eq_true rfl, Nat.le_of_ble_eq_true rfl, rfl, by decide +kernel⟩ ?_
      show pm_E none _ _ 0 [(0, .ref (pl 203)), (1, .int (iI i))] [] _ _ _ _
      have f_3 := (tyF_r (a := a) ho)
      refine C_y_rootOf hW h203 f_3.2.2.2 ⟨by omega, by omega⟩ (fun s_3 a_3 c_3 v_3 g_3 b_3 => ?_)
      have e_3 := g_3.2.2.2
      obtain ⟨⟨_, _, _, _⟩, ⟨_, _, _, _⟩, ⟨_, _⟩, ⟨_, _⟩, ⟨_, _⟩⟩ := e_3
      obtain ⟨_, _⟩ := b_3
      show pm_E _ _ _ 23 [(0, .ref (pl 203)), (1, .int (iI m)), (2, .int (iI q)), (3, .int (iI i))] [.int (iI v_3)] _ _ _ _
      refine pm_e_sim pm_a130_23 rfl ?_
      show pm_E _ _ _ 24 [(0, .ref (pl 203)), (1, .int (iI m)), (2, .int (iI q)), (3, .int (iI i))] [.int (iI i), .int (iI v_3)] _ _ _ _
      refine pm_c_ne (t := 52) pm_a130_24 rfl ⟨by omega, by omega⟩ ⟨by omega, by omega⟩ (fun h_4 => ?_) (fun h_4 => ?_)
      · skip
        show pm_E _ _ _ 52 [(0, .ref (pl 203)), (1, .int (iI m)), (2, .int (iI q)), (3, .int (iI i))] [] _ _ _ _
        refine pm_e_inc (y := iI (i + 1)) pm_a130_52 rfl (iI_add _ _) (by decide +kernel) rfl ?_
        show pm_E _ _ _ 55 [(0, .ref (pl 203)), (1, .int (iI m)), (2, .int (iI q)), (3, .int (iI (i + 1)))] [] _ _ _ _
        refine pm_e_goto pm_a130_55 rfl ?_
        show pm_E _ _ _ 10 [(0, .ref (pl 203)), (1, .int (iI m)), (2, .int (iI q)), (3, .int (iI (i + 1)))] [] _ _ _ _
        have f_5 := (tyF_t f_3 g_3)
        exact ih m q (i + 1) _ _ _ (by omega) (by omega) ⟨by omega, by omega⟩ (by omega) f_5.2.2.2 (fun s2 a2 c2 r f2 b2 => k s2 a2 c2 r (tyF_t f_5 f2) b2) (by omega)
      · skip
        show pm_E _ _ _ 27 [(0, .ref (pl 203)), (1, .int (iI m)), (2, .int (iI q)), (3, .int (iI i))] [] _ _ _ _
        refine pm_e_inc (y := iI (m + 1)) pm_a130_27 rfl (iI_add _ _) (by decide +kernel) rfl ?_
        show pm_E _ _ _ 30 [(0, .ref (pl 203)), (1, .int (iI (m + 1))), (2, .int (iI q)), (3, .int (iI i))] [] _ _ _ _
        refine pm_e_sim pm_a130_30 rfl ?_
        show pm_E _ _ _ 31 [(0, .ref (pl 203)), (1, .int (iI (m + 1))), (2, .int (iI q)), (3, .int (iI i))] [.ref (pl 203)] _ _ _ _
        refine pm_i_get pm_a130_31 rfl (cg_203 hW h203) rfl ?_
        show pm_E _ _ _ 34 [(0, .ref (pl 203)), (1, .int (iI (m + 1))), (2, .int (iI q)), (3, .int (iI i))] [.ref (pl 208)] _ _ _ _
        refine pm_e_sim pm_a130_34 rfl ?_
        show pm_E _ _ _ 35 [(0, .ref (pl 203)), (1, .int (iI (m + 1))), (2, .int (iI q)), (3, .int (iI i))] [.int (iI i), .ref (pl 208)] _ _ _ _
        refine pm_e_call (T2 := pm_mm123) pm_a130_35 rfl rfl rfl rfl rfl rfl rfl rfl rfl ?_
        show pm_E none _ _ 0 [(0, .ref (pl 208)), (1, .int (iI i))] [] _ _ _ _
        refine C_yat_208 hW h203 ⟨by omega, by omega⟩ (fun v_6 b_6 => ?_)
        obtain ⟨_, _⟩ := b_6
        show pm_E _ _ _ 38 [(0, .ref (pl 203)), (1, .int (iI (m + 1))), (2, .int (iI q)), (3, .int (iI i))] [.int (iI v_6)] _ _ _ _
        refine pm_i_ne (t := 50) pm_a130_38 rfl ⟨by omega, by omega⟩ (fun h_7 => ?_) (fun h_7 => ?_)
        · skip
          show pm_E _ _ _ 50 [(0, .ref (pl 203)), (1, .int (iI (m + 1))), (2, .int (iI q)), (3, .int (iI i))] [] _ _ _ _
          refine pm_e_sim pm_a130_50 rfl ?_
          show pm_E _ _ _ 51 [(0, .ref (pl 203)), (1, .int (iI (m + 1))), (2, .int (iI q)), (3, .int (iI i))] [.int (iI q)] _ _ _ _
          refine pm_e_sim pm_a130_51 rfl ?_
          show pm_E _ _ _ 52 [(0, .ref (pl 203)), (1, .int (iI (m + 1))), (2, .int (iI q)), (3, .int (iI i))] [] _ _ _ _
          refine pm_e_inc (y := iI (i + 1)) pm_a130_52 rfl (iI_add _ _) (by decide +kernel) rfl ?_
          show pm_E _ _ _ 55 [(0, .ref (pl 203)), (1, .int (iI (m + 1))), (2, .int (iI q)), (3, .int (iI (i + 1)))] [] _ _ _ _
          refine pm_e_goto pm_a130_55 rfl ?_
          show pm_E _ _ _ 10 [(0, .ref (pl 203)), (1, .int (iI (m + 1))), (2, .int (iI q)), (3, .int (iI (i + 1)))] [] _ _ _ _
          have f_8 := (tyF_t f_3 g_3)
          exact ih (m + 1) q (i + 1) _ _ _ (by omega) (by omega) ⟨by omega, by omega⟩ (by omega) f_8.2.2.2 (fun s2 a2 c2 r f2 b2 => k s2 a2 c2 r (tyF_t f_8 f2) b2) (by omega)
        · skip
          show pm_E _ _ _ 41 [(0, .ref (pl 203)), (1, .int (iI (m + 1))), (2, .int (iI q)), (3, .int (iI i))] [] _ _ _ _
          refine pm_e_sim pm_a130_41 rfl ?_
          show pm_E _ _ _ 42 [(0, .ref (pl 203)), (1, .int (iI (m + 1))), (2, .int (iI q)), (3, .int (iI i))] [.ref (pl 203)] _ _ _ _
          refine pm_e_sim pm_a130_42 rfl ?_
          show pm_E _ _ _ 43 [(0, .ref (pl 203)), (1, .int (iI (m + 1))), (2, .int (iI q)), (3, .int (iI i))] [.int (iI i), .ref (pl 203)] _ _ _ _
          refine pm_e_sim pm_a130_43 rfl ?_
          show pm_E _ _ _ 44 [(0, .ref (pl 203)), (1, .int (iI (m + 1))), (2, .int (iI q)), (3, .int (iI i))] [.int (iI q), .int (iI i), .ref (pl 203)] _ _ _ _
          refine pm_i_callv (k := (pl 203)) (T2 := pm_mm125) pm_a130_44 rfl rfl rfl (cg_203 hW h203) ⟨Nat.le_of_ble_eq_true rfl, Nat.le_of_ble_eq_true rfl, rfl, by decide +kernel⟩ ?_
          show pm_E none _ _ 0 [(0, .ref (pl 203)), (1, .int (iI i)), (2, .int (iI q))] [] _ _ _ _
          have f_9 := (tyF_t f_3 g_3)
          refine C_y_enqueue hW h203 f_9.2.2.2 ⟨by omega, by omega⟩ ⟨by omega, by omega⟩ (fun s_9 a_9 c_9 v_9 g_9 b_9 => ?_)
          have e_9 := g_9.2.2.2
          obtain ⟨⟨_, _, _, _⟩, ⟨_, _, _, _⟩, ⟨_, _⟩, ⟨_, _⟩, ⟨_, _⟩⟩ := e_9
          obtain ⟨_, _⟩ := b_9
          show pm_E _ _ _ 47 [(0, .ref (pl 203)), (1, .int (iI (m + 1))), (2, .int (iI q)), (3, .int (iI i))] [.int (iI v_9)] _ _ _ _
          refine pm_e_goto pm_a130_47 rfl ?_
          show pm_E _ _ _ 51 [(0, .ref (pl 203)), (1, .int (iI (m + 1))), (2, .int (iI q)), (3, .int (iI i))] [.int (iI v_9)] _ _ _ _
          refine pm_e_sim pm_a130_51 rfl ?_
          show pm_E _ _ _ 52 [(0, .ref (pl 203)), (1, .int (iI (m + 1))), (2, .int (iI v_9)), (3, .int (iI i))] [] _ _ _ _
          refine pm_e_inc (y := iI (i + 1)) pm_a130_52 rfl (iI_add _ _) (by decide +kernel) rfl ?_
          show pm_E _ _ _ 55 [(0, .ref (pl 203)), (1, .int (iI (m + 1))), (2, .int (iI v_9)), (3, .int (iI (i + 1)))] [] _ _ _ _
          refine pm_e_goto pm_a130_55 rfl ?_
          show pm_E _ _ _ 10 [(0, .ref (pl 203)), (1, .int (iI (m + 1))), (2, .int (iI v_9)), (3, .int (iI (i + 1)))] [] _ _ _ _
          have f_10 := (tyF_t f_9 g_9)
          exact ih (m + 1) v_9 (i + 1) _ _ _ (by omega) (by omega) ⟨by omega, by omega⟩ (by omega) f_10.2.2.2 (fun s2 a2 c2 r f2 b2 => k s2 a2 c2 r (tyF_t f_10 f2) b2) (by omega)
set_option maxHeartbeats 4000000 in
set_option maxRecDepth 100000 in
theorem C_y_hasCircle {d n : Nat} {kd pl : Nat → Nat} {s : Nat → Int} {a : Nat → Int → Int} {c : Nat → cdt} {M : List va_E} {Q : Option Value → List va_E → Nat → Nat → Prop} (hW : wf n kd pl) (h203 : al n kd pl 203) (ho : tyO s c)  (k : ∀ s' a' c' r, tyF s a c s' a' c' → in32 r → Q (some (.int (iI r))) (ch n kd pl s' a' c' M) 0 0) : pm_E none (d + 3) pm_mm130 0 [(0, .ref (pl 203))] [] (ch n kd pl s a c M) 0 0 Q := by
  obtain ⟨⟨_, _, _, _⟩, ⟨_, _, _, _⟩, ⟨_, _⟩, ⟨_, _⟩, ⟨_, _⟩⟩ := id ho
  have rb4 := rm_b 4
  have rb5 := rm_b 5
  refine pm_e_sim pm_a130_0 rfl ?_
  show pm_E _ _ _ 1 [(0, .ref (pl 203))] [.ref (pl 203)] _ _ _ _
  refine pm_i_callv (k := (pl 203)) (T2 := pm_mm131) pm_a130_1 rfl rfl rfl (cg_203 hW h203) ⟨Nat.le_of_ble_eq_true rfl, Nat.le_of_ble_eq_true rfl, rfl, by decide +kernel⟩ ?_
  show pm_E none _ _ 0 [(0, .ref (pl 203))] [] _ _ _ _
  have f_1 := (tyF_r (a := a) ho)
  refine C_y_countSides hW h203 f_1.2.2.2  (fun s_1 a_1 c_1  g_1  => ?_)
  have e_1 := g_1.2.2.2
  obtain ⟨⟨_, _, _, _⟩, ⟨_, _, _, _⟩, ⟨_, _⟩, ⟨_, _⟩, ⟨_, _⟩⟩ := e_1
  show pm_E _ _ _ 4 [(0, .ref (pl 203))] [] _ _ _ _
  refine pm_e_sim pm_a130_4 rfl ?_
  refine pm_e_top (y := iI 0) (by decide +kernel) ?_
  show pm_E _ _ _ 5 [(0, .ref (pl 203))] [.int (iI 0)] _ _ _ _
  refine pm_e_sim pm_a130_5 rfl ?_
  show pm_E _ _ _ 6 [(0, .ref (pl 203)), (1, .int (iI 0))] [] _ _ _ _
  refine pm_e_sim pm_a130_6 rfl ?_
  refine pm_e_top (y := iI 0) (by decide +kernel) ?_
  show pm_E _ _ _ 7 [(0, .ref (pl 203)), (1, .int (iI 0))] [.int (iI 0)] _ _ _ _
  refine pm_e_sim pm_a130_7 rfl ?_
  show pm_E _ _ _ 8 [(0, .ref (pl 203)), (1, .int (iI 0)), (2, .int (iI 0))] [] _ _ _ _
  refine pm_e_sim pm_a130_8 rfl ?_
  refine pm_e_top (y := iI 0) (by decide +kernel) ?_
  show pm_E _ _ _ 9 [(0, .ref (pl 203)), (1, .int (iI 0)), (2, .int (iI 0))] [.int (iI 0)] _ _ _ _
  refine pm_e_sim pm_a130_9 rfl ?_
  show pm_E _ _ _ 10 [(0, .ref (pl 203)), (1, .int (iI 0)), (2, .int (iI 0)), (3, .int (iI 0))] [] _ _ _ _
  have f_2 := (tyF_t f_1 g_1)
  exact C_y_circ1_l hW h203 2147483648 0 0 0 _ _ _ (by omega) (by omega) (by decide) (by omega) f_2.2.2.2 (fun s2 a2 c2 r f2 b2 => k s2 a2 c2 r (tyF_t f_2 f2) b2) (by omega)
