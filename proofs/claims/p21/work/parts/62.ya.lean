/-! THE CLASS: Typer, exactly: circles -/
set_option maxHeartbeats 4000000 in
set_option maxRecDepth 100000 in
theorem C_zclear_l {d n : Nat} {kd pl : Nat → Nat} {M : List va_E} {Q : Option Value → List va_E → Nat → Nat → Prop} {s : Nat → Int} {c : Nat → cdt} {a0 : Nat → Int → Int} (hW : wf n kd pl) (h203 : al n kd pl 203) : ∀ (f : Nat) (i : Int) (a : Nat → Int → Int), 0 ≤ i → i ≤ 2800 → (∀ j, j ≠ 13 → a j = a0 j) → (∀ x, 0 ≤ x → x < i → a 13 x = 0) → (∀ a', (∀ j, j ≠ 13 → a' j = a0 j) → (∀ x, 0 ≤ x → x < 2800 → a' 13 x = 0) → Q none (ch n kd pl s a' c M) 0 0) → 2801 - i < (f : Int) → pm_E none (d + 1) pm_mm132 2 [(0, .ref (pl 203)), (1, .int (iI i))] [] (ch n kd pl s a c M) 0 0 Q := by
  intro f
  induction f with
  | zero =>
    intro i a h0 h1 fA hz k hf
    exfalso; omega
  | succ f ih =>
    intro i a h0 h1 fA hz k hf
    refine pm_e_sim pm_a132_2 rfl ?_
    show pm_E _ _ _ 3 [(0, .ref (pl 203)), (1, .int (iI i))] [.int (iI i)] _ _ _ _
    refine pm_e_sim pm_a132_3 rfl ?_
    refine pm_e_top (y := iI 2800) (by decide +kernel) ?_
    show pm_E _ _ _ 6 [(0, .ref (pl 203)), (1, .int (iI i))] [.int (iI 2800), .int (iI i)] _ _ _ _
    refine pm_c_ge (t := 24) pm_a132_6 rfl ⟨by omega, by omega⟩ ⟨by omega, by omega⟩ (fun h_1 => ?_) (fun h_1 => ?_)
    · skip
      show pm_E _ _ _ 24 [(0, .ref (pl 203)), (1, .int (iI i))] [] _ _ _ _
      refine pm_e_ret pm_a132_24 rfl rfl rfl rfl rfl rfl rfl rfl ?_
      exact k a fA (fun x x0 x1 => hz x x0 (by omega))
    · skip
      show pm_E _ _ _ 9 [(0, .ref (pl 203)), (1, .int (iI i))] [] _ _ _ _
      refine pm_e_sim pm_a132_9 rfl ?_
      show pm_E _ _ _ 10 [(0, .ref (pl 203)), (1, .int (iI i))] [.ref (pl 203)] _ _ _ _
      refine pm_i_get pm_a132_10 rfl (cg_203 hW h203) rfl ?_
      show pm_E _ _ _ 13 [(0, .ref (pl 203)), (1, .int (iI i))] [.ref (pl 208)] _ _ _ _
      refine pm_e_sim pm_a132_13 rfl ?_
      show pm_E _ _ _ 14 [(0, .ref (pl 203)), (1, .int (iI i))] [.int (iI i), .ref (pl 208)] _ _ _ _
      refine pm_e_sim pm_a132_14 rfl ?_
      refine pm_e_top (y := iI 0) (by decide +kernel) ?_
      show pm_E _ _ _ 15 [(0, .ref (pl 203)), (1, .int (iI i))] [.int (iI 0), .int (iI i), .ref (pl 208)] _ _ _ _
      refine pm_e_call (T2 := pm_mm114) pm_a132_15 rfl rfl rfl rfl rfl rfl rfl rfl rfl ?_
      show pm_E none _ _ 0 [(0, .ref (pl 208)), (1, .int (iI i)), (2, .int (iI 0))] [] _ _ _ _
      refine C_zset_208 hW h203 (by omega) (by omega) ?_
      show pm_E _ _ _ 18 [(0, .ref (pl 203)), (1, .int (iI i))] [] _ _ _ _
      refine pm_e_inc (y := iI (i + 1)) pm_a132_18 rfl (iI_add _ _) (by decide +kernel) rfl ?_
      show pm_E _ _ _ 21 [(0, .ref (pl 203)), (1, .int (iI (i + 1)))] [] _ _ _ _
      refine pm_e_goto pm_a132_21 rfl ?_
      show pm_E _ _ _ 2 [(0, .ref (pl 203)), (1, .int (iI (i + 1)))] [] _ _ _ _
      refine ih (i + 1) _ (by omega) (by omega) (fun j h => by simp [updA, h, fA j h]) (fun x x0 x1 => ?_) k (by omega)
      show updI (a 13) i 0 x = 0
      by_cases c9 : x = i
      · rw [c9, updI_s]
      · rw [updI_n _ _ c9]; exact hz x x0 (by omega)
set_option maxHeartbeats 4000000 in
set_option maxRecDepth 100000 in
theorem C_zclearMarks {d n : Nat} {kd pl : Nat → Nat} {s : Nat → Int} {a : Nat → Int → Int} {c : Nat → cdt} {M : List va_E} {Q : Option Value → List va_E → Nat → Nat → Prop} (hW : wf n kd pl) (h203 : al n kd pl 203) (k : ∀ a', (∀ j, j ≠ 13 → a' j = a j) → (∀ x, 0 ≤ x → x < 2800 → a' 13 x = 0) → Q none (ch n kd pl s a' c M) 0 0) : pm_E none (d + 1) pm_mm132 0 [(0, .ref (pl 203))] [] (ch n kd pl s a c M) 0 0 Q := by
  refine pm_e_sim pm_a132_0 rfl ?_
  refine pm_e_top (y := iI 0) (by decide +kernel) ?_
  show pm_E _ _ _ 1 [(0, .ref (pl 203))] [.int (iI 0)] _ _ _ _
  refine pm_e_sim pm_a132_1 rfl ?_
  show pm_E _ _ _ 2 [(0, .ref (pl 203)), (1, .int (iI 0))] [] _ _ _ _
  exact C_zclear_l (a0 := a) hW h203 2802 0 a (by omega) (by omega) (fun j _ => rfl) (fun x x0 x1 => by omega) k (by omega)
set_option maxHeartbeats 4000000 in
set_option maxRecDepth 100000 in
theorem C_zcountSide {d n : Nat} {kd pl : Nat → Nat} {s : Nat → Int} {a : Nat → Int → Int} {c : Nat → cdt} {M : List va_E} {Q : Option Value → List va_E → Nat → Nat → Prop} {x : Int} (hW : wf n kd pl) (h203 : al n kd pl 203) (h0 : 0 ≤ x) (h1 : x < 2800) (k : Q none (ch n kd pl s (updA a 13 (updI (a 13) x (a 13 x + 1))) c M) 0 0) : pm_E none (d + 1) pm_mm133 0 [(0, .ref (pl 203)), (1, .int (iI x))] [] (ch n kd pl s a c M) 0 0 Q := by
  refine pm_e_sim pm_a133_0 rfl ?_
  show pm_E _ _ _ 1 [(0, .ref (pl 203)), (1, .int (iI x))] [.ref (pl 203)] _ _ _ _
  refine pm_i_get pm_a133_1 rfl (cg_203 hW h203) rfl ?_
  show pm_E _ _ _ 4 [(0, .ref (pl 203)), (1, .int (iI x))] [.ref (pl 208)] _ _ _ _
  refine pm_e_sim pm_a133_4 rfl ?_
  show pm_E _ _ _ 5 [(0, .ref (pl 203)), (1, .int (iI x))] [.int (iI x), .ref (pl 208)] _ _ _ _
  refine pm_e_sim pm_a133_5 rfl ?_
  show pm_E _ _ _ 6 [(0, .ref (pl 203)), (1, .int (iI x))] [.ref (pl 203), .int (iI x), .ref (pl 208)] _ _ _ _
  refine pm_i_get pm_a133_6 rfl (cg_203 hW h203) rfl ?_
  show pm_E _ _ _ 9 [(0, .ref (pl 203)), (1, .int (iI x))] [.ref (pl 208), .int (iI x), .ref (pl 208)] _ _ _ _
  refine pm_e_sim pm_a133_9 rfl ?_
  show pm_E _ _ _ 10 [(0, .ref (pl 203)), (1, .int (iI x))] [.int (iI x), .ref (pl 208), .int (iI x), .ref (pl 208)] _ _ _ _
  refine pm_e_call (T2 := pm_mm123) pm_a133_10 rfl rfl rfl rfl rfl rfl rfl rfl rfl ?_
  show pm_E none _ _ 0 [(0, .ref (pl 208)), (1, .int (iI x))] [] _ _ _ _
  refine C_zat_208 hW h203 (by omega) (by omega) ?_
  show pm_E _ _ _ 13 [(0, .ref (pl 203)), (1, .int (iI x))] [.int (iI (a 13 x)), .int (iI x), .ref (pl 208)] _ _ _ _
  refine pm_e_sim pm_a133_13 rfl ?_
  refine pm_e_top (y := iI 1) (by decide +kernel) ?_
  show pm_E _ _ _ 14 [(0, .ref (pl 203)), (1, .int (iI x))] [.int (iI 1), .int (iI (a 13 x)), .int (iI x), .ref (pl 208)] _ _ _ _
  refine pm_e_sim pm_a133_14 rfl ?_
  refine pm_e_top (y := iI (a 13 x + 1)) (iI_add _ _) ?_
  show pm_E _ _ _ 15 [(0, .ref (pl 203)), (1, .int (iI x))] [.int (iI (a 13 x + 1)), .int (iI x), .ref (pl 208)] _ _ _ _
  refine pm_e_call (T2 := pm_mm114) pm_a133_15 rfl rfl rfl rfl rfl rfl rfl rfl rfl ?_
  show pm_E none _ _ 0 [(0, .ref (pl 208)), (1, .int (iI x)), (2, .int (iI (a 13 x + 1)))] [] _ _ _ _
  refine C_zset_208 hW h203 (by omega) (by omega) ?_
  show pm_E _ _ _ 18 [(0, .ref (pl 203)), (1, .int (iI x))] [] _ _ _ _
  refine pm_e_ret pm_a133_18 rfl rfl rfl rfl rfl rfl rfl rfl ?_
  exact k
set_option maxHeartbeats 4000000 in
set_option maxRecDepth 100000 in
theorem C_zrelease {d n : Nat} {kd pl : Nat → Nat} {s : Nat → Int} {a : Nat → Int → Int} {c : Nat → cdt} {M : List va_E} {Q : Option Value → List va_E → Nat → Nat → Prop} {x q : Int} (hW : wf n kd pl) (h203 : al n kd pl 203) (h0 : 0 ≤ x) (h1 : x < 2800) (hm : 0 ≤ a 13 x ∧ a 13 x < 2147483648) (hq0 : 0 ≤ q) (hq : a 13 x - 1 = 0 → q < 2800) (k0 : a 13 x - 1 ≠ 0 → Q (some (.int (iI q))) (ch n kd pl s (updA a 13 (updI (a 13) x (a 13 x - 1))) c M) 0 0) (k1 : a 13 x - 1 = 0 → Q (some (.int (iI (q + 1)))) (ch n kd pl s (updA (updA a 13 (updI (a 13) x (a 13 x - 1))) 12 (updI (a 12) q x)) c M) 0 0) : pm_E none (d + 2) pm_mm134 0 [(0, .ref (pl 203)), (1, .int (iI x)), (2, .int (iI q))] [] (ch n kd pl s a c M) 0 0 Q := by
  refine pm_e_sim pm_a134_0 rfl ?_
  show pm_E _ _ _ 1 [(0, .ref (pl 203)), (1, .int (iI x)), (2, .int (iI q))] [.ref (pl 203)] _ _ _ _
  refine pm_i_get pm_a134_1 rfl (cg_203 hW h203) rfl ?_
  show pm_E _ _ _ 4 [(0, .ref (pl 203)), (1, .int (iI x)), (2, .int (iI q))] [.ref (pl 208)] _ _ _ _
  refine pm_e_sim pm_a134_4 rfl ?_
  show pm_E _ _ _ 5 [(0, .ref (pl 203)), (1, .int (iI x)), (2, .int (iI q))] [.int (iI x), .ref (pl 208)] _ _ _ _
  refine pm_e_sim pm_a134_5 rfl ?_
  show pm_E _ _ _ 6 [(0, .ref (pl 203)), (1, .int (iI x)), (2, .int (iI q))] [.ref (pl 203), .int (iI x), .ref (pl 208)] _ _ _ _
  refine pm_i_get pm_a134_6 rfl (cg_203 hW h203) rfl ?_
  show pm_E _ _ _ 9 [(0, .ref (pl 203)), (1, .int (iI x)), (2, .int (iI q))] [.ref (pl 208), .int (iI x), .ref (pl 208)] _ _ _ _
  refine pm_e_sim pm_a134_9 rfl ?_
  show pm_E _ _ _ 10 [(0, .ref (pl 203)), (1, .int (iI x)), (2, .int (iI q))] [.int (iI x), .ref (pl 208), .int (iI x), .ref (pl 208)] _ _ _ _
  refine pm_e_call (T2 := pm_mm123) pm_a134_10 rfl rfl rfl rfl rfl rfl rfl rfl rfl ?_
  show pm_E none _ _ 0 [(0, .ref (pl 208)), (1, .int (iI x))] [] _ _ _ _
  refine C_zat_208 hW h203 (by omega) (by omega) ?_
  show pm_E _ _ _ 13 [(0, .ref (pl 203)), (1, .int (iI x)), (2, .int (iI q))] [.int (iI (a 13 x)), .int (iI x), .ref (pl 208)] _ _ _ _
  refine pm_e_sim pm_a134_13 rfl ?_
  refine pm_e_top (y := iI 1) (by decide +kernel) ?_
  show pm_E _ _ _ 14 [(0, .ref (pl 203)), (1, .int (iI x)), (2, .int (iI q))] [.int (iI 1), .int (iI (a 13 x)), .int (iI x), .ref (pl 208)] _ _ _ _
  refine pm_e_sim pm_a134_14 rfl ?_
  refine pm_e_top (y := iI (a 13 x - 1)) (iI_sub _ _) ?_
  show pm_E _ _ _ 15 [(0, .ref (pl 203)), (1, .int (iI x)), (2, .int (iI q))] [.int (iI (a 13 x - 1)), .int (iI x), .ref (pl 208)] _ _ _ _
  refine pm_e_call (T2 := pm_mm114) pm_a134_15 rfl rfl rfl rfl rfl rfl rfl rfl rfl ?_
  show pm_E none _ _ 0 [(0, .ref (pl 208)), (1, .int (iI x)), (2, .int (iI (a 13 x - 1)))] [] _ _ _ _
  refine C_zset_208 hW h203 (by omega) (by omega) ?_
  show pm_E _ _ _ 18 [(0, .ref (pl 203)), (1, .int (iI x)), (2, .int (iI q))] [] _ _ _ _
  refine pm_e_sim pm_a134_18 rfl ?_
  show pm_E _ _ _ 19 [(0, .ref (pl 203)), (1, .int (iI x)), (2, .int (iI q))] [.ref (pl 203)] _ _ _ _
  refine pm_i_get pm_a134_19 rfl (cg_203 hW h203) rfl ?_
  show pm_E _ _ _ 22 [(0, .ref (pl 203)), (1, .int (iI x)), (2, .int (iI q))] [.ref (pl 208)] _ _ _ _
  refine pm_e_sim pm_a134_22 rfl ?_
  show pm_E _ _ _ 23 [(0, .ref (pl 203)), (1, .int (iI x)), (2, .int (iI q))] [.int (iI x), .ref (pl 208)] _ _ _ _
  refine pm_e_call (T2 := pm_mm123) pm_a134_23 rfl rfl rfl rfl rfl rfl rfl rfl rfl ?_
  show pm_E none _ _ 0 [(0, .ref (pl 208)), (1, .int (iI x))] [] _ _ _ _
  refine C_zat_208 hW h203 (by omega) (by omega) ?_
  refine pm_e_top (y := iI (a 13 x - 1)) (congrArg iI (updI_s _ _ _)) ?_
  show pm_E _ _ _ 26 [(0, .ref (pl 203)), (1, .int (iI x)), (2, .int (iI q))] [.int (iI (a 13 x - 1))] _ _ _ _
  refine pm_i_ne (t := 38) pm_a134_26 rfl ⟨by omega, by omega⟩ (fun h_1 => ?_) (fun h_1 => ?_)
  · skip
    show pm_E _ _ _ 38 [(0, .ref (pl 203)), (1, .int (iI x)), (2, .int (iI q))] [] _ _ _ _
    refine pm_e_sim pm_a134_38 rfl ?_
    show pm_E _ _ _ 39 [(0, .ref (pl 203)), (1, .int (iI x)), (2, .int (iI q))] [.int (iI q)] _ _ _ _
    refine pm_e_ret pm_a134_39 rfl rfl rfl rfl rfl rfl rfl rfl ?_
    exact k0 (by omega)
  · skip
    show pm_E _ _ _ 29 [(0, .ref (pl 203)), (1, .int (iI x)), (2, .int (iI q))] [] _ _ _ _
    refine pm_e_sim pm_a134_29 rfl ?_
    show pm_E _ _ _ 30 [(0, .ref (pl 203)), (1, .int (iI x)), (2, .int (iI q))] [.ref (pl 203)] _ _ _ _
    refine pm_e_sim pm_a134_30 rfl ?_
    show pm_E _ _ _ 31 [(0, .ref (pl 203)), (1, .int (iI x)), (2, .int (iI q))] [.int (iI x), .ref (pl 203)] _ _ _ _
    refine pm_e_sim pm_a134_31 rfl ?_
    show pm_E _ _ _ 32 [(0, .ref (pl 203)), (1, .int (iI x)), (2, .int (iI q))] [.int (iI q), .int (iI x), .ref (pl 203)] _ _ _ _
    refine pm_i_callv (k := (pl 203)) (T2 := pm_mm125) pm_a134_32 rfl rfl rfl (cg_203 hW h203) ⟨Nat.le_of_ble_eq_true rfl, Nat.le_of_ble_eq_true rfl, rfl, by decide +kernel⟩ ?_
    show pm_E none _ _ 0 [(0, .ref (pl 203)), (1, .int (iI x)), (2, .int (iI q))] [] _ _ _ _
    refine C_zenqueue hW h203 hq0 (hq (by omega)) ?_
    show pm_E _ _ _ 35 [(0, .ref (pl 203)), (1, .int (iI x)), (2, .int (iI q))] [.int (iI (q + 1))] _ _ _ _
    refine pm_e_goto pm_a134_35 rfl ?_
    show pm_E _ _ _ 39 [(0, .ref (pl 203)), (1, .int (iI x)), (2, .int (iI q))] [.int (iI (q + 1))] _ _ _ _
    refine pm_e_ret pm_a134_39 rfl rfl rfl rfl rfl rfl rfl rfl ?_
    exact k1 (by omega)
set_option maxHeartbeats 4000000 in
set_option maxRecDepth 100000 in
theorem C_zsides_l {d n : Nat} {kd pl : Nat → Nat} {M : List va_E} {Q : Option Value → List va_E → Nat → Nat → Prop} {s : Nat → Int} {c : Nat → cdt} {a0 : Nat → Int → Int} {rt : Int → Int} (hW : wf n kd pl) (h203 : al n kd pl 203) (hK : s 20 ≤ 2800) (hG : GC (s 20) (a0 9) (a0 10) (a0 11) rt) : ∀ (f : Nat) (i : Int) (a : Nat → Int → Int), 0 ≤ i → i ≤ s 20 → (∀ j, j ≠ 11 → j ≠ 13 → a j = a0 j) → LR (s 20) (a 11) rt → (∀ x, 0 ≤ x → x < s 20 → a 13 x = sd9 (a0 9) (a0 10) rt (fun _ => -1) 0 i.toNat x) → (∀ a', (∀ j, j ≠ 11 → j ≠ 13 → a' j = a0 j) → LR (s 20) (a' 11) rt → (∀ x, 0 ≤ x → x < s 20 → a' 13 x = sd9 (a0 9) (a0 10) rt (fun _ => -1) 0 (s 20).toNat x) → Q none (ch n kd pl s a' c M) 0 0) → 2801 - i < (f : Int) → pm_E none (d + 2) pm_mm131 6 [(0, .ref (pl 203)), (1, .int (iI i))] [] (ch n kd pl s a c M) 0 0 Q := by
  intro f
  induction f with
  | zero =>
    intro i a h0 h1 fA hL hm k hf
    exfalso; omega
  | succ f ih =>
    intro i a h0 h1 fA hL hm k hf
    have e9 : a 9 = a0 9 := fA 9 (by omega) (by omega)
    have e10 : a 10 = a0 10 := fA 10 (by omega) (by omega)
    have hR : ∀ k, 0 ≤ k → k < s 20 → a 9 k ≠ -1 → (0 ≤ a 9 k ∧ a 9 k < s 20) ∧ (0 ≤ a 10 k ∧ a 10 k < s 20) := by rw [e9, e10]; exact (GI_rg hG.2).2
    have hr := hG.2.2.1
    have hK0 := hG.2.1
    have hFr : ∀ k, 0 ≤ k → k < s 20 → a 9 k = -1 ∨ (0 ≤ a 9 k ∧ a 9 k < s 20) := fun k z y => by
      by_cases c9 : a 9 k = -1
      · exact Or.inl c9
      · exact Or.inr (hR k z y c9).1
    refine pm_e_sim pm_a131_6 rfl ?_
    show pm_E _ _ _ 7 [(0, .ref (pl 203)), (1, .int (iI i))] [.int (iI i)] _ _ _ _
    refine pm_e_sim pm_a131_7 rfl ?_
    show pm_E _ _ _ 8 [(0, .ref (pl 203)), (1, .int (iI i))] [.ref (pl 203), .int (iI i)] _ _ _ _
    refine pm_i_get pm_a131_8 rfl (cg_203 hW h203) rfl ?_
    show pm_E _ _ _ 11 [(0, .ref (pl 203)), (1, .int (iI i))] [.int (iI (s 20)), .int (iI i)] _ _ _ _
    refine pm_c_ge (t := 69) pm_a131_11 rfl ⟨by omega, by omega⟩ ⟨by omega, by omega⟩ (fun h_1 => ?_) (fun h_1 => ?_)
    · skip
      show pm_E _ _ _ 69 [(0, .ref (pl 203)), (1, .int (iI i))] [] _ _ _ _
      refine pm_e_ret pm_a131_69 rfl rfl rfl rfl rfl rfl rfl rfl ?_
      have hi : i = s 20 := by omega
      subst hi
      exact k a fA hL hm
    · skip
      show pm_E _ _ _ 14 [(0, .ref (pl 203)), (1, .int (iI i))] [] _ _ _ _
      refine pm_e_sim pm_a131_14 rfl ?_
      show pm_E _ _ _ 15 [(0, .ref (pl 203)), (1, .int (iI i))] [.ref (pl 203)] _ _ _ _
      refine pm_e_sim pm_a131_15 rfl ?_
      show pm_E _ _ _ 16 [(0, .ref (pl 203)), (1, .int (iI i))] [.int (iI i), .ref (pl 203)] _ _ _ _
      refine pm_i_callv (k := (pl 203)) (T2 := pm_mm122) pm_a131_16 rfl rfl rfl (cg_203 hW h203) ⟨Nat.le_of_ble_eq_true rfl, Nat.le_of_ble_eq_true rfl, rfl, by decide +kernel⟩ ?_
      show pm_E none _ _ 0 [(0, .ref (pl 203)), (1, .int (iI i))] [] _ _ _ _
      have r_1 := hr i (by omega) (by omega)
      refine C_zrootOf (rt := rt) hW h203 hK hL (by omega) (by omega) (fun lk1 hL1 hc1 => ?_)
      show pm_E _ _ _ 19 [(0, .ref (pl 203)), (1, .int (iI i))] [.int (iI (rt i))] _ _ _ _
      refine pm_e_sim pm_a131_19 rfl ?_
      show pm_E _ _ _ 20 [(0, .ref (pl 203)), (1, .int (iI i))] [.int (iI i), .int (iI (rt i))] _ _ _ _
      refine pm_c_ne (t := 63) pm_a131_20 rfl ⟨by omega, by omega⟩ ⟨by omega, by omega⟩ (fun h_2 => ?_) (fun h_2 => ?_)
      · skip
        show pm_E _ _ _ 63 [(0, .ref (pl 203)), (1, .int (iI i))] [] _ _ _ _
        refine pm_e_inc (y := iI (i + 1)) pm_a131_63 rfl (iI_add _ _) (by decide +kernel) rfl ?_
        show pm_E _ _ _ 66 [(0, .ref (pl 203)), (1, .int (iI (i + 1)))] [] _ _ _ _
        refine pm_e_goto pm_a131_66 rfl ?_
        show pm_E _ _ _ 6 [(0, .ref (pl 203)), (1, .int (iI (i + 1)))] [] _ _ _ _
        refine ih (i + 1) _ (by omega) (by omega) (fun j h1 h2 => by simp [updA, h1, h2, fA j h1 h2]) hL1 ?_ k (by omega)
        exact cs9_no hm h0 (by rw [← e9]; omega)
      · skip
        show pm_E _ _ _ 23 [(0, .ref (pl 203)), (1, .int (iI i))] [] _ _ _ _
        refine pm_e_sim pm_a131_23 rfl ?_
        show pm_E _ _ _ 24 [(0, .ref (pl 203)), (1, .int (iI i))] [.ref (pl 203)] _ _ _ _
        refine pm_e_sim pm_a131_24 rfl ?_
        show pm_E _ _ _ 25 [(0, .ref (pl 203)), (1, .int (iI i))] [.int (iI i), .ref (pl 203)] _ _ _ _
        refine pm_i_callv (k := (pl 203)) (T2 := pm_mm124) pm_a131_25 rfl rfl rfl (cg_203 hW h203) ⟨Nat.le_of_ble_eq_true rfl, Nat.le_of_ble_eq_true rfl, rfl, by decide +kernel⟩ ?_
        show pm_E none _ _ 0 [(0, .ref (pl 203)), (1, .int (iI i))] [] _ _ _ _
        have fh_3 := hFr i (by omega) (by omega)
        refine C_zisArrow hW h203 (by omega) (by omega) ⟨by show -2147483648 ≤ a 9 i; omega, by show a 9 i < 2147483648; omega⟩ (fun h_3 => ?_) (fun h_3 => ?_)
        · skip
          replace h_3 : a 9 i ≠ -1 := h_3
          have gh_3 := hR i (by omega) (by omega) h_3
          show pm_E _ _ _ 28 [(0, .ref (pl 203)), (1, .int (iI i))] [.int (iI 1)] _ _ _ _
          refine pm_e_iff pm_a131_28 rfl (by decide +kernel) ?_
          show pm_E _ _ _ 31 [(0, .ref (pl 203)), (1, .int (iI i))] [] _ _ _ _
          refine pm_e_sim pm_a131_31 rfl ?_
          show pm_E _ _ _ 32 [(0, .ref (pl 203)), (1, .int (iI i))] [.ref (pl 203)] _ _ _ _
          refine pm_e_sim pm_a131_32 rfl ?_
          show pm_E _ _ _ 33 [(0, .ref (pl 203)), (1, .int (iI i))] [.ref (pl 203), .ref (pl 203)] _ _ _ _
          refine pm_e_sim pm_a131_33 rfl ?_
          show pm_E _ _ _ 34 [(0, .ref (pl 203)), (1, .int (iI i))] [.ref (pl 203), .ref (pl 203), .ref (pl 203)] _ _ _ _
          refine pm_i_get pm_a131_34 rfl (cg_203 hW h203) rfl ?_
          show pm_E _ _ _ 37 [(0, .ref (pl 203)), (1, .int (iI i))] [.ref (pl 204), .ref (pl 203), .ref (pl 203)] _ _ _ _
          refine pm_e_sim pm_a131_37 rfl ?_
          show pm_E _ _ _ 38 [(0, .ref (pl 203)), (1, .int (iI i))] [.int (iI i), .ref (pl 204), .ref (pl 203), .ref (pl 203)] _ _ _ _
          refine pm_e_call (T2 := pm_mm123) pm_a131_38 rfl rfl rfl rfl rfl rfl rfl rfl rfl ?_
          show pm_E none _ _ 0 [(0, .ref (pl 204)), (1, .int (iI i))] [] _ _ _ _
          refine C_zat_204 hW h203 (by omega) (by omega) ?_
          show pm_E _ _ _ 41 [(0, .ref (pl 203)), (1, .int (iI i))] [.int (iI (a 9 i)), .ref (pl 203), .ref (pl 203)] _ _ _ _
          refine pm_i_callv (k := (pl 203)) (T2 := pm_mm122) pm_a131_41 rfl rfl rfl (cg_203 hW h203) ⟨Nat.le_of_ble_eq_true rfl, Nat.le_of_ble_eq_true rfl, rfl, by decide +kernel⟩ ?_
          show pm_E none _ _ 0 [(0, .ref (pl 203)), (1, .int (iI (a 9 i)))] [] _ _ _ _
          have r_2 := hr (a 9 i) (by omega) (by omega)
          refine C_zrootOf (rt := rt) hW h203 hK hL1 (by omega) (by omega) (fun lk2 hL2 hc2 => ?_)
          show pm_E _ _ _ 44 [(0, .ref (pl 203)), (1, .int (iI i))] [.int (iI (rt (a 9 i))), .ref (pl 203)] _ _ _ _
          refine pm_i_callv (k := (pl 203)) (T2 := pm_mm133) pm_a131_44 rfl rfl rfl (cg_203 hW h203) ⟨Nat.le_of_ble_eq_true rfl, Nat.le_of_ble_eq_true rfl, rfl, by decide +kernel⟩ ?_
          show pm_E none _ _ 0 [(0, .ref (pl 203)), (1, .int (iI (rt (a 9 i))))] [] _ _ _ _
          refine C_zcountSide hW h203 (by omega) (by omega) ?_
          show pm_E _ _ _ 47 [(0, .ref (pl 203)), (1, .int (iI i))] [] _ _ _ _
          refine pm_e_sim pm_a131_47 rfl ?_
          show pm_E _ _ _ 48 [(0, .ref (pl 203)), (1, .int (iI i))] [.ref (pl 203)] _ _ _ _
          refine pm_e_sim pm_a131_48 rfl ?_
          show pm_E _ _ _ 49 [(0, .ref (pl 203)), (1, .int (iI i))] [.ref (pl 203), .ref (pl 203)] _ _ _ _
          refine pm_e_sim pm_a131_49 rfl ?_
          show pm_E _ _ _ 50 [(0, .ref (pl 203)), (1, .int (iI i))] [.ref (pl 203), .ref (pl 203), .ref (pl 203)] _ _ _ _
          refine pm_i_get pm_a131_50 rfl (cg_203 hW h203) rfl ?_
          show pm_E _ _ _ 53 [(0, .ref (pl 203)), (1, .int (iI i))] [.ref (pl 205), .ref (pl 203), .ref (pl 203)] _ _ _ _
          refine pm_e_sim pm_a131_53 rfl ?_
          show pm_E _ _ _ 54 [(0, .ref (pl 203)), (1, .int (iI i))] [.int (iI i), .ref (pl 205), .ref (pl 203), .ref (pl 203)] _ _ _ _
          refine pm_e_call (T2 := pm_mm123) pm_a131_54 rfl rfl rfl rfl rfl rfl rfl rfl rfl ?_
          show pm_E none _ _ 0 [(0, .ref (pl 205)), (1, .int (iI i))] [] _ _ _ _
          refine C_zat_205 hW h203 (by omega) (by omega) ?_
          show pm_E _ _ _ 57 [(0, .ref (pl 203)), (1, .int (iI i))] [.int (iI (a 10 i)), .ref (pl 203), .ref (pl 203)] _ _ _ _
          refine pm_i_callv (k := (pl 203)) (T2 := pm_mm122) pm_a131_57 rfl rfl rfl (cg_203 hW h203) ⟨Nat.le_of_ble_eq_true rfl, Nat.le_of_ble_eq_true rfl, rfl, by decide +kernel⟩ ?_
          show pm_E none _ _ 0 [(0, .ref (pl 203)), (1, .int (iI (a 10 i)))] [] _ _ _ _
          have r_3 := hr (a 10 i) (by omega) (by omega)
          refine C_zrootOf (rt := rt) hW h203 hK hL2 (by omega) (by omega) (fun lk3 hL3 hc3 => ?_)
          show pm_E _ _ _ 60 [(0, .ref (pl 203)), (1, .int (iI i))] [.int (iI (rt (a 10 i))), .ref (pl 203)] _ _ _ _
          refine pm_i_callv (k := (pl 203)) (T2 := pm_mm133) pm_a131_60 rfl rfl rfl (cg_203 hW h203) ⟨Nat.le_of_ble_eq_true rfl, Nat.le_of_ble_eq_true rfl, rfl, by decide +kernel⟩ ?_
          show pm_E none _ _ 0 [(0, .ref (pl 203)), (1, .int (iI (rt (a 10 i))))] [] _ _ _ _
          refine C_zcountSide hW h203 (by omega) (by omega) ?_
          show pm_E _ _ _ 63 [(0, .ref (pl 203)), (1, .int (iI i))] [] _ _ _ _
          refine pm_e_inc (y := iI (i + 1)) pm_a131_63 rfl (iI_add _ _) (by decide +kernel) rfl ?_
          show pm_E _ _ _ 66 [(0, .ref (pl 203)), (1, .int (iI (i + 1)))] [] _ _ _ _
          refine pm_e_goto pm_a131_66 rfl ?_
          show pm_E _ _ _ 6 [(0, .ref (pl 203)), (1, .int (iI (i + 1)))] [] _ _ _ _
          refine ih (i + 1) _ (by omega) (by omega) (fun j h1 h2 => by simp [updA, h1, h2, fA j h1 h2]) hL3 ?_ k (by omega)
          have z9 := cs9_yes (F := a 9) (G := a 10) (rt := rt) (by rw [e9, e10]; exact hm) h0 (by omega) (by omega)
          rw [e9, e10] at z9
          exact fun x x0 x1 => by have := z9 x x0 x1; rw [← e9, ← e10] at this ⊢; exact this
        · skip
          replace h_3 : a 9 i = -1 := h_3
          show pm_E _ _ _ 28 [(0, .ref (pl 203)), (1, .int (iI i))] [.int (iI 0)] _ _ _ _
          refine pm_e_ift pm_a131_28 rfl (by decide +kernel) ?_
          show pm_E _ _ _ 63 [(0, .ref (pl 203)), (1, .int (iI i))] [] _ _ _ _
          refine pm_e_inc (y := iI (i + 1)) pm_a131_63 rfl (iI_add _ _) (by decide +kernel) rfl ?_
          show pm_E _ _ _ 66 [(0, .ref (pl 203)), (1, .int (iI (i + 1)))] [] _ _ _ _
          refine pm_e_goto pm_a131_66 rfl ?_
          show pm_E _ _ _ 6 [(0, .ref (pl 203)), (1, .int (iI (i + 1)))] [] _ _ _ _
          refine ih (i + 1) _ (by omega) (by omega) (fun j h1 h2 => by simp [updA, h1, h2, fA j h1 h2]) hL1 ?_ k (by omega)
          exact cs9_no hm h0 (by rw [← e9]; omega)
set_option maxHeartbeats 4000000 in
set_option maxRecDepth 100000 in
theorem C_zcountSides {d n : Nat} {kd pl : Nat → Nat} {s : Nat → Int} {a : Nat → Int → Int} {c : Nat → cdt} {M : List va_E} {Q : Option Value → List va_E → Nat → Nat → Prop} {rt : Int → Int} (hW : wf n kd pl) (h203 : al n kd pl 203) (hK : s 20 ≤ 2800) (hG : GC (s 20) (a 9) (a 10) (a 11) rt) (k : (∀ a', (∀ j, j ≠ 11 → j ≠ 13 → a' j = a j) → LR (s 20) (a' 11) rt → (∀ x, 0 ≤ x → x < s 20 → a' 13 x = sd9 (a 9) (a 10) rt (fun _ => -1) 0 (s 20).toNat x) → Q none (ch n kd pl s a' c M) 0 0)) : pm_E none (d + 2) pm_mm131 0 [(0, .ref (pl 203))] [] (ch n kd pl s a c M) 0 0 Q := by
  refine pm_e_sim pm_a131_0 rfl ?_
  show pm_E _ _ _ 1 [(0, .ref (pl 203))] [.ref (pl 203)] _ _ _ _
  refine pm_i_callv (k := (pl 203)) (T2 := pm_mm132) pm_a131_1 rfl rfl rfl (cg_203 hW h203) ⟨Nat.le_of_ble_eq_true rfl, Nat.le_of_ble_eq_true rfl, rfl, by decide +kernel⟩ ?_
  show pm_E none _ _ 0 [(0, .ref (pl 203))] [] _ _ _ _
  refine C_zclearMarks hW h203 (fun a1 fr1 hz1 => ?_)
  show pm_E _ _ _ 4 [(0, .ref (pl 203))] [] _ _ _ _
  refine pm_e_sim pm_a131_4 rfl ?_
  refine pm_e_top (y := iI 0) (by decide +kernel) ?_
  show pm_E _ _ _ 5 [(0, .ref (pl 203))] [.int (iI 0)] _ _ _ _
  refine pm_e_sim pm_a131_5 rfl ?_
  show pm_E _ _ _ 6 [(0, .ref (pl 203)), (1, .int (iI 0))] [] _ _ _ _
  refine C_zsides_l (a0 := a) (rt := rt) hW h203 hK hG 2802 0 a1 (by omega) hG.2.1 (fun j h1 h2 => fr1 j h2) (by rw [fr1 11 (by omega)]; exact hG.1) (fun x x0 x1 => hz1 x x0 (by omega)) k (by omega)
set_option maxHeartbeats 4000000 in
set_option maxRecDepth 100000 in
theorem C_zcirc2_l {d n : Nat} {kd pl : Nat → Nat} {M : List va_E} {Q : Option Value → List va_E → Nat → Nat → Prop} {s : Nat → Int} {c : Nat → cdt} {a0 : Nat → Int → Int} {rt : Int → Int} {m : Int} (hW : wf n kd pl) (h203 : al n kd pl 203) (hK : s 20 ≤ 2800) (hG : GC (s 20) (a0 9) (a0 10) (a0 11) rt) (hm : m = nq9 rt (fun _ => -1) (s 20).toNat) (k : ∀ a', (∀ j, j ≠ 11 → j ≠ 12 → j ≠ 13 → a' j = a0 j) → LR (s 20) (a' 11) rt → ((∀ t, ¬ SOL (s 20) (-1) (a0 9) (a0 10) rt t) → Q (some (.int (iI 1))) (ch n kd pl s a' c M) 0 0) ∧ ((∃ h, RK (s 20) (-1) (a0 9) (a0 10) rt h) → Q (some (.int (iI 0))) (ch n kd pl s a' c M) 0 0)) : ∀ (f : Nat) (i q : Int) (a : Nat → Int → Int), (∀ j, j ≠ 11 → j ≠ 12 → j ≠ 13 → a j = a0 j) → LR (s 20) (a 11) rt → (∃ ps, KH (s 20) (a0 9) (a0 10) rt (s 20) i q ps (a 13) (a 12) (fun _ => 0)) → 2801 - i < (f : Int) → pm_E none (d + 3) pm_mm130 60 [(0, .ref (pl 203)), (1, .int (iI m)), (2, .int (iI q)), (3, .int (iI i))] [] (ch n kd pl s a c M) 0 0 Q := by
  intro f
  induction f with
  | zero =>
    intro i q a fA hL hk hf
    exfalso
    obtain ⟨ps, hk⟩ := hk
    have hi0 := hk.2.2.2.2.2.2.2.1
    have hi1 := hk.2.2.2.2.2.2.2.2
    have hq9 := KH_R hk
    omega
  | succ f ih =>
    intro i q a fA hL hk hf
    have e9 : a 9 = a0 9 := fA 9 (by omega) (by omega) (by omega)
    have e10 : a 10 = a0 10 := fA 10 (by omega) (by omega) (by omega)
    have hR : ∀ k, 0 ≤ k → k < s 20 → a 9 k ≠ -1 → (0 ≤ a 9 k ∧ a 9 k < s 20) ∧ (0 ≤ a 10 k ∧ a 10 k < s 20) := by rw [e9, e10]; exact (GI_rg hG.2).2
    have hr := hG.2.2.1
    have hK0 := hG.2.1
    have hFr : ∀ k, 0 ≤ k → k < s 20 → a 9 k = -1 ∨ (0 ≤ a 9 k ∧ a 9 k < s 20) := fun k z y => by
      by_cases c9 : a 9 k = -1
      · exact Or.inl c9
      · exact Or.inr (hR k z y c9).1
    obtain ⟨ps, hk⟩ := hk
    rw [← e9, ← e10] at hk
    have hi0 := hk.2.2.2.2.2.2.2.1
    have hi1 := hk.2.2.2.2.2.2.2.2
    have hq9 := KH_R hk
    refine pm_e_sim pm_a130_60 rfl ?_
    show pm_E _ _ _ 61 [(0, .ref (pl 203)), (1, .int (iI m)), (2, .int (iI q)), (3, .int (iI i))] [.int (iI i)] _ _ _ _
    refine pm_e_sim pm_a130_61 rfl ?_
    show pm_E _ _ _ 62 [(0, .ref (pl 203)), (1, .int (iI m)), (2, .int (iI q)), (3, .int (iI i))] [.int (iI q), .int (iI i)] _ _ _ _
    refine pm_c_ge (t := 135) pm_a130_62 rfl ⟨by omega, by omega⟩ ⟨by omega, by omega⟩ (fun h_1 => ?_) (fun h_1 => ?_)
    · skip
      show pm_E _ _ _ 135 [(0, .ref (pl 203)), (1, .int (iI m)), (2, .int (iI q)), (3, .int (iI i))] [] _ _ _ _
      refine pm_e_sim pm_a130_135 rfl ?_
      show pm_E _ _ _ 136 [(0, .ref (pl 203)), (1, .int (iI m)), (2, .int (iI q)), (3, .int (iI i))] [.int (iI q)] _ _ _ _
      refine pm_e_sim pm_a130_136 rfl ?_
      show pm_E _ _ _ 137 [(0, .ref (pl 203)), (1, .int (iI m)), (2, .int (iI q)), (3, .int (iI i))] [.int (iI m), .int (iI q)] _ _ _ _
      refine pm_c_ge (t := 144) pm_a130_137 rfl ⟨by omega, by omega⟩ ⟨by omega, by omega⟩ (fun h_2 => ?_) (fun h_2 => ?_)
      · skip
        show pm_E _ _ _ 144 [(0, .ref (pl 203)), (1, .int (iI m)), (2, .int (iI q)), (3, .int (iI i))] [] _ _ _ _
        refine pm_e_sim pm_a130_144 rfl ?_
        refine pm_e_top (y := iI 0) (by decide +kernel) ?_
        show pm_E _ _ _ 145 [(0, .ref (pl 203)), (1, .int (iI m)), (2, .int (iI q)), (3, .int (iI i))] [.int (iI 0)] _ _ _ _
        refine pm_e_ret pm_a130_145 rfl rfl rfl rfl rfl rfl rfl rfl ?_
        have hi : i = q := by omega
        subst hi
        rw [e9, e10] at hk
        exact (k a fA hL).2 (KH_rk hk (by omega) hr (GI_rg hG.2).2)
      · skip
        show pm_E _ _ _ 140 [(0, .ref (pl 203)), (1, .int (iI m)), (2, .int (iI q)), (3, .int (iI i))] [] _ _ _ _
        refine pm_e_sim pm_a130_140 rfl ?_
        refine pm_e_top (y := iI 1) (by decide +kernel) ?_
        show pm_E _ _ _ 141 [(0, .ref (pl 203)), (1, .int (iI m)), (2, .int (iI q)), (3, .int (iI i))] [.int (iI 1)] _ _ _ _
        refine pm_e_goto pm_a130_141 rfl ?_
        show pm_E _ _ _ 145 [(0, .ref (pl 203)), (1, .int (iI m)), (2, .int (iI q)), (3, .int (iI i))] [.int (iI 1)] _ _ _ _
        refine pm_e_ret pm_a130_145 rfl rfl rfl rfl rfl rfl rfl rfl ?_
        have hi : i = q := by omega
        subst hi
        rw [e9, e10] at hk
        exact (k a fA hL).1 (KH_circ hk (by omega) (GI_rg hG.2).2)
    · skip
      show pm_E _ _ _ 65 [(0, .ref (pl 203)), (1, .int (iI m)), (2, .int (iI q)), (3, .int (iI i))] [] _ _ _ _
      refine pm_e_sim pm_a130_65 rfl ?_
      show pm_E _ _ _ 66 [(0, .ref (pl 203)), (1, .int (iI m)), (2, .int (iI q)), (3, .int (iI i))] [.int (iI i)] _ _ _ _
      refine pm_e_sim pm_a130_66 rfl ?_
      refine pm_e_top (y := iI 2800) (by decide +kernel) ?_
      show pm_E _ _ _ 69 [(0, .ref (pl 203)), (1, .int (iI m)), (2, .int (iI q)), (3, .int (iI i))] [.int (iI 2800), .int (iI i)] _ _ _ _
      refine pm_c_ge (t := 135) pm_a130_69 rfl ⟨by omega, by omega⟩ ⟨by omega, by omega⟩ (fun h_3 => ?_) (fun h_3 => ?_)
      · skip
        show pm_E _ _ _ 135 [(0, .ref (pl 203)), (1, .int (iI m)), (2, .int (iI q)), (3, .int (iI i))] [] _ _ _ _
        refine pm_e_sim pm_a130_135 rfl ?_
        show pm_E _ _ _ 136 [(0, .ref (pl 203)), (1, .int (iI m)), (2, .int (iI q)), (3, .int (iI i))] [.int (iI q)] _ _ _ _
        refine pm_e_sim pm_a130_136 rfl ?_
        show pm_E _ _ _ 137 [(0, .ref (pl 203)), (1, .int (iI m)), (2, .int (iI q)), (3, .int (iI i))] [.int (iI m), .int (iI q)] _ _ _ _
        refine pm_c_ge (t := 144) pm_a130_137 rfl ⟨by omega, by omega⟩ ⟨by omega, by omega⟩ (fun h_4 => ?_) (fun h_4 => ?_)
        · skip
          show pm_E _ _ _ 144 [(0, .ref (pl 203)), (1, .int (iI m)), (2, .int (iI q)), (3, .int (iI i))] [] _ _ _ _
          refine pm_e_sim pm_a130_144 rfl ?_
          refine pm_e_top (y := iI 0) (by decide +kernel) ?_
          show pm_E _ _ _ 145 [(0, .ref (pl 203)), (1, .int (iI m)), (2, .int (iI q)), (3, .int (iI i))] [.int (iI 0)] _ _ _ _
          refine pm_e_ret pm_a130_145 rfl rfl rfl rfl rfl rfl rfl rfl ?_
          have hi : i = q := by omega
          subst hi
          rw [e9, e10] at hk
          exact (k a fA hL).2 (KH_rk hk (by omega) hr (GI_rg hG.2).2)
        · skip
          show pm_E _ _ _ 140 [(0, .ref (pl 203)), (1, .int (iI m)), (2, .int (iI q)), (3, .int (iI i))] [] _ _ _ _
          refine pm_e_sim pm_a130_140 rfl ?_
          refine pm_e_top (y := iI 1) (by decide +kernel) ?_
          show pm_E _ _ _ 141 [(0, .ref (pl 203)), (1, .int (iI m)), (2, .int (iI q)), (3, .int (iI i))] [.int (iI 1)] _ _ _ _
          refine pm_e_goto pm_a130_141 rfl ?_
          show pm_E _ _ _ 145 [(0, .ref (pl 203)), (1, .int (iI m)), (2, .int (iI q)), (3, .int (iI i))] [.int (iI 1)] _ _ _ _
          refine pm_e_ret pm_a130_145 rfl rfl rfl rfl rfl rfl rfl rfl ?_
          have hi : i = q := by omega
          subst hi
          rw [e9, e10] at hk
          exact (k a fA hL).1 (KH_circ hk (by omega) (GI_rg hG.2).2)
      · skip
        show pm_E _ _ _ 72 [(0, .ref (pl 203)), (1, .int (iI m)), (2, .int (iI q)), (3, .int (iI i))] [] _ _ _ _
        refine pm_e_sim pm_a130_72 rfl ?_
        show pm_E _ _ _ 73 [(0, .ref (pl 203)), (1, .int (iI m)), (2, .int (iI q)), (3, .int (iI i))] [.ref (pl 203)] _ _ _ _
        refine pm_i_get pm_a130_73 rfl (cg_203 hW h203) rfl ?_
        show pm_E _ _ _ 76 [(0, .ref (pl 203)), (1, .int (iI m)), (2, .int (iI q)), (3, .int (iI i))] [.ref (pl 207)] _ _ _ _
        refine pm_e_sim pm_a130_76 rfl ?_
        show pm_E _ _ _ 77 [(0, .ref (pl 203)), (1, .int (iI m)), (2, .int (iI q)), (3, .int (iI i))] [.int (iI i), .ref (pl 207)] _ _ _ _
        refine pm_e_call (T2 := pm_mm123) pm_a130_77 rfl rfl rfl rfl rfl rfl rfl rfl rfl ?_
        show pm_E none _ _ 0 [(0, .ref (pl 207)), (1, .int (iI i))] [] _ _ _ _
        have hv := hk.1 i (by omega) (by omega)
        refine C_zat_207 hW h203 (by omega) (by omega) ?_
        show pm_E _ _ _ 80 [(0, .ref (pl 203)), (1, .int (iI m)), (2, .int (iI q)), (3, .int (iI i))] [.int (iI (a 12 i))] _ _ _ _
        refine pm_e_sim pm_a130_80 rfl ?_
        show pm_E _ _ _ 82 [(0, .ref (pl 203)), (1, .int (iI m)), (2, .int (iI q)), (3, .int (iI i)), (4, .int (iI (a 12 i)))] [] _ _ _ _
        refine pm_e_sim pm_a130_82 rfl ?_
        show pm_E _ _ _ 83 [(0, .ref (pl 203)), (1, .int (iI m)), (2, .int (iI q)), (3, .int (iI i)), (4, .int (iI (a 12 i)))] [.ref (pl 203)] _ _ _ _
        refine pm_e_sim pm_a130_83 rfl ?_
        show pm_E _ _ _ 85 [(0, .ref (pl 203)), (1, .int (iI m)), (2, .int (iI q)), (3, .int (iI i)), (4, .int (iI (a 12 i)))] [.int (iI (a 12 i)), .ref (pl 203)] _ _ _ _
        refine pm_i_callv (k := (pl 203)) (T2 := pm_mm124) pm_a130_85 rfl rfl rfl (cg_203 hW h203) ⟨Nat.le_of_ble_eq_true rfl, Nat.le_of_ble_eq_true rfl, rfl, by decide +kernel⟩ ?_
        show pm_E none _ _ 0 [(0, .ref (pl 203)), (1, .int (iI (a 12 i)))] [] _ _ _ _
        have fh_5 := hFr (a 12 i) (by omega) (by omega)
        refine C_zisArrow hW h203 (by omega) (by omega) ⟨by show -2147483648 ≤ a 9 (a 12 i); omega, by show a 9 (a 12 i) < 2147483648; omega⟩ (fun h_5 => ?_) (fun h_5 => ?_)
        · skip
          replace h_5 : a 9 (a 12 i) ≠ -1 := h_5
          have gh_5 := hR (a 12 i) (by omega) (by omega) h_5
          have hk1 : KH (s 20) (a 9) (a 10) rt (s 20) (i + 1) q ps (a 13) (a 12) (wA (rt (a 9 (a 12 i))) (rt (a 10 (a 12 i)))) := KH_two hk (by omega) h_5
          show pm_E _ _ _ 88 [(0, .ref (pl 203)), (1, .int (iI m)), (2, .int (iI q)), (3, .int (iI i)), (4, .int (iI (a 12 i)))] [.int (iI 1)] _ _ _ _
          refine pm_e_iff pm_a130_88 rfl (by decide +kernel) ?_
          show pm_E _ _ _ 91 [(0, .ref (pl 203)), (1, .int (iI m)), (2, .int (iI q)), (3, .int (iI i)), (4, .int (iI (a 12 i)))] [] _ _ _ _
          refine pm_e_sim pm_a130_91 rfl ?_
          show pm_E _ _ _ 92 [(0, .ref (pl 203)), (1, .int (iI m)), (2, .int (iI q)), (3, .int (iI i)), (4, .int (iI (a 12 i)))] [.ref (pl 203)] _ _ _ _
          refine pm_e_sim pm_a130_92 rfl ?_
          show pm_E _ _ _ 93 [(0, .ref (pl 203)), (1, .int (iI m)), (2, .int (iI q)), (3, .int (iI i)), (4, .int (iI (a 12 i)))] [.ref (pl 203), .ref (pl 203)] _ _ _ _
          refine pm_e_sim pm_a130_93 rfl ?_
          show pm_E _ _ _ 94 [(0, .ref (pl 203)), (1, .int (iI m)), (2, .int (iI q)), (3, .int (iI i)), (4, .int (iI (a 12 i)))] [.ref (pl 203), .ref (pl 203), .ref (pl 203)] _ _ _ _
          refine pm_i_get pm_a130_94 rfl (cg_203 hW h203) rfl ?_
          show pm_E _ _ _ 97 [(0, .ref (pl 203)), (1, .int (iI m)), (2, .int (iI q)), (3, .int (iI i)), (4, .int (iI (a 12 i)))] [.ref (pl 204), .ref (pl 203), .ref (pl 203)] _ _ _ _
          refine pm_e_sim pm_a130_97 rfl ?_
          show pm_E _ _ _ 99 [(0, .ref (pl 203)), (1, .int (iI m)), (2, .int (iI q)), (3, .int (iI i)), (4, .int (iI (a 12 i)))] [.int (iI (a 12 i)), .ref (pl 204), .ref (pl 203), .ref (pl 203)] _ _ _ _
          refine pm_e_call (T2 := pm_mm123) pm_a130_99 rfl rfl rfl rfl rfl rfl rfl rfl rfl ?_
          show pm_E none _ _ 0 [(0, .ref (pl 204)), (1, .int (iI (a 12 i)))] [] _ _ _ _
          refine C_zat_204 hW h203 (by omega) (by omega) ?_
          show pm_E _ _ _ 102 [(0, .ref (pl 203)), (1, .int (iI m)), (2, .int (iI q)), (3, .int (iI i)), (4, .int (iI (a 12 i)))] [.int (iI (a 9 (a 12 i))), .ref (pl 203), .ref (pl 203)] _ _ _ _
          refine pm_i_callv (k := (pl 203)) (T2 := pm_mm122) pm_a130_102 rfl rfl rfl (cg_203 hW h203) ⟨Nat.le_of_ble_eq_true rfl, Nat.le_of_ble_eq_true rfl, rfl, by decide +kernel⟩ ?_
          show pm_E none _ _ 0 [(0, .ref (pl 203)), (1, .int (iI (a 9 (a 12 i))))] [] _ _ _ _
          have r_4 := hr (a 9 (a 12 i)) (by omega) (by omega)
          refine C_zrootOf (rt := rt) hW h203 hK hL (by omega) (by omega) (fun lk4 hL4 hc4 => ?_)
          show pm_E _ _ _ 105 [(0, .ref (pl 203)), (1, .int (iI m)), (2, .int (iI q)), (3, .int (iI i)), (4, .int (iI (a 12 i)))] [.int (iI (rt (a 9 (a 12 i)))), .ref (pl 203)] _ _ _ _
          refine pm_e_sim pm_a130_105 rfl ?_
          show pm_E _ _ _ 106 [(0, .ref (pl 203)), (1, .int (iI m)), (2, .int (iI q)), (3, .int (iI i)), (4, .int (iI (a 12 i)))] [.int (iI q), .int (iI (rt (a 9 (a 12 i)))), .ref (pl 203)] _ _ _ _
          refine pm_i_callv (k := (pl 203)) (T2 := pm_mm134) pm_a130_106 rfl rfl rfl (cg_203 hW h203) ⟨Nat.le_of_ble_eq_true rfl, Nat.le_of_ble_eq_true rfl, rfl, by decide +kernel⟩ ?_
          show pm_E none _ _ 0 [(0, .ref (pl 203)), (1, .int (iI (rt (a 9 (a 12 i))))), (2, .int (iI q))] [] _ _ _ _
          have b_1 := KH_m hk1 (u := (rt (a 9 (a 12 i)))) (by omega) (by omega)
          have q_1 := KH_w hk1 (u := (rt (a 9 (a 12 i)))) (by omega) (by omega) (by omega) wA_u
          refine C_zrelease hW h203 (by omega) (by omega) ⟨b_1.1, Int.lt_of_le_of_lt b_1.2 (by omega)⟩ (by omega) (fun _ => by omega) (fun t_1 => ?_) (fun t_1 => ?_)
          · skip
            replace t_1 : (a 13) (rt (a 9 (a 12 i))) - 1 ≠ 0 := t_1
            have hko1 := KH_off hk1 (u := (rt (a 9 (a 12 i)))) (by omega) (by omega) wA_u t_1
            rw [wA_off] at hko1
            show pm_E _ _ _ 109 [(0, .ref (pl 203)), (1, .int (iI m)), (2, .int (iI q)), (3, .int (iI i)), (4, .int (iI (a 12 i)))] [.int (iI q)] _ _ _ _
            refine pm_e_sim pm_a130_109 rfl ?_
            show pm_E _ _ _ 110 [(0, .ref (pl 203)), (1, .int (iI m)), (2, .int (iI q)), (3, .int (iI i)), (4, .int (iI (a 12 i)))] [] _ _ _ _
            refine pm_e_sim pm_a130_110 rfl ?_
            show pm_E _ _ _ 111 [(0, .ref (pl 203)), (1, .int (iI m)), (2, .int (iI q)), (3, .int (iI i)), (4, .int (iI (a 12 i)))] [.ref (pl 203)] _ _ _ _
            refine pm_e_sim pm_a130_111 rfl ?_
            show pm_E _ _ _ 112 [(0, .ref (pl 203)), (1, .int (iI m)), (2, .int (iI q)), (3, .int (iI i)), (4, .int (iI (a 12 i)))] [.ref (pl 203), .ref (pl 203)] _ _ _ _
            refine pm_e_sim pm_a130_112 rfl ?_
            show pm_E _ _ _ 113 [(0, .ref (pl 203)), (1, .int (iI m)), (2, .int (iI q)), (3, .int (iI i)), (4, .int (iI (a 12 i)))] [.ref (pl 203), .ref (pl 203), .ref (pl 203)] _ _ _ _
            refine pm_i_get pm_a130_113 rfl (cg_203 hW h203) rfl ?_
            show pm_E _ _ _ 116 [(0, .ref (pl 203)), (1, .int (iI m)), (2, .int (iI q)), (3, .int (iI i)), (4, .int (iI (a 12 i)))] [.ref (pl 205), .ref (pl 203), .ref (pl 203)] _ _ _ _
            refine pm_e_sim pm_a130_116 rfl ?_
            show pm_E _ _ _ 118 [(0, .ref (pl 203)), (1, .int (iI m)), (2, .int (iI q)), (3, .int (iI i)), (4, .int (iI (a 12 i)))] [.int (iI (a 12 i)), .ref (pl 205), .ref (pl 203), .ref (pl 203)] _ _ _ _
            refine pm_e_call (T2 := pm_mm123) pm_a130_118 rfl rfl rfl rfl rfl rfl rfl rfl rfl ?_
            show pm_E none _ _ 0 [(0, .ref (pl 205)), (1, .int (iI (a 12 i)))] [] _ _ _ _
            refine C_zat_205 hW h203 (by omega) (by omega) ?_
            show pm_E _ _ _ 121 [(0, .ref (pl 203)), (1, .int (iI m)), (2, .int (iI q)), (3, .int (iI i)), (4, .int (iI (a 12 i)))] [.int (iI (a 10 (a 12 i))), .ref (pl 203), .ref (pl 203)] _ _ _ _
            refine pm_i_callv (k := (pl 203)) (T2 := pm_mm122) pm_a130_121 rfl rfl rfl (cg_203 hW h203) ⟨Nat.le_of_ble_eq_true rfl, Nat.le_of_ble_eq_true rfl, rfl, by decide +kernel⟩ ?_
            show pm_E none _ _ 0 [(0, .ref (pl 203)), (1, .int (iI (a 10 (a 12 i))))] [] _ _ _ _
            have r_5 := hr (a 10 (a 12 i)) (by omega) (by omega)
            refine C_zrootOf (rt := rt) hW h203 hK hL4 (by omega) (by omega) (fun lk5 hL5 hc5 => ?_)
            show pm_E _ _ _ 124 [(0, .ref (pl 203)), (1, .int (iI m)), (2, .int (iI q)), (3, .int (iI i)), (4, .int (iI (a 12 i)))] [.int (iI (rt (a 10 (a 12 i)))), .ref (pl 203)] _ _ _ _
            refine pm_e_sim pm_a130_124 rfl ?_
            show pm_E _ _ _ 125 [(0, .ref (pl 203)), (1, .int (iI m)), (2, .int (iI q)), (3, .int (iI i)), (4, .int (iI (a 12 i)))] [.int (iI q), .int (iI (rt (a 10 (a 12 i)))), .ref (pl 203)] _ _ _ _
            refine pm_i_callv (k := (pl 203)) (T2 := pm_mm134) pm_a130_125 rfl rfl rfl (cg_203 hW h203) ⟨Nat.le_of_ble_eq_true rfl, Nat.le_of_ble_eq_true rfl, rfl, by decide +kernel⟩ ?_
            show pm_E none _ _ 0 [(0, .ref (pl 203)), (1, .int (iI (rt (a 10 (a 12 i))))), (2, .int (iI q))] [] _ _ _ _
            have b_2 := KH_m hko1 (u := (rt (a 10 (a 12 i)))) (by omega) (by omega)
            have q_2 := KH_w hko1 (u := (rt (a 10 (a 12 i)))) (by omega) (by omega) (by omega) wB_v
            refine C_zrelease hW h203 (by omega) (by omega) ⟨b_2.1, Int.lt_of_le_of_lt b_2.2 (by omega)⟩ (by omega) (fun _ => by omega) (fun t_2 => ?_) (fun t_2 => ?_)
            · skip
              replace t_2 : (updI (a 13) (rt (a 9 (a 12 i))) ((a 13) (rt (a 9 (a 12 i))) - 1)) (rt (a 10 (a 12 i))) - 1 ≠ 0 := t_2
              have hko2 := KH_off hko1 (u := (rt (a 10 (a 12 i)))) (by omega) (by omega) wB_v t_2
              rw [wB_off] at hko2
              show pm_E _ _ _ 128 [(0, .ref (pl 203)), (1, .int (iI m)), (2, .int (iI q)), (3, .int (iI i)), (4, .int (iI (a 12 i)))] [.int (iI q)] _ _ _ _
              refine pm_e_sim pm_a130_128 rfl ?_
              show pm_E _ _ _ 129 [(0, .ref (pl 203)), (1, .int (iI m)), (2, .int (iI q)), (3, .int (iI i)), (4, .int (iI (a 12 i)))] [] _ _ _ _
              refine pm_e_inc (y := iI (i + 1)) pm_a130_129 rfl (iI_add _ _) (by decide +kernel) rfl ?_
              show pm_E _ _ _ 132 [(0, .ref (pl 203)), (1, .int (iI m)), (2, .int (iI q)), (3, .int (iI (i + 1))), (4, .int (iI (a 12 i)))] [] _ _ _ _
              refine pm_e_goto pm_a130_132 rfl ?_
              show pm_E _ _ _ 60 [(0, .ref (pl 203)), (1, .int (iI m)), (2, .int (iI q)), (3, .int (iI (i + 1))), (4, .int (iI (a 12 i)))] [] _ _ _ _
              show pm_E _ _ _ 60 ([(0, .ref (pl 203)), (1, .int (iI m)), (2, .int (iI q)), (3, .int (iI (i + 1)))] ++ [(4, .int (iI (a 12 i)))]) [] _ _ _ _
              refine pm_e_more [(4, .int (iI (a 12 i)))] (show ([0, 1, 2, 3, 4] : List Nat).Nodup from by decide) ?_
              refine ih (i + 1) q _ (fun j h1 h2 h3 => by simp [updA, h1, h2, h3, fA j h1 h2 h3]) hL5 ⟨_, (by rw [← e9, ← e10]; exact hko2)⟩ (by omega)
            · skip
              replace t_2 : (updI (a 13) (rt (a 9 (a 12 i))) ((a 13) (rt (a 9 (a 12 i))) - 1)) (rt (a 10 (a 12 i))) - 1 = 0 := t_2
              have hkr2 := KH_rel hko1 (u := (rt (a 10 (a 12 i)))) (by omega) (by omega) (by omega) wB_v t_2
              rw [wB_off] at hkr2
              show pm_E _ _ _ 128 [(0, .ref (pl 203)), (1, .int (iI m)), (2, .int (iI q)), (3, .int (iI i)), (4, .int (iI (a 12 i)))] [.int (iI (q + 1))] _ _ _ _
              refine pm_e_sim pm_a130_128 rfl ?_
              show pm_E _ _ _ 129 [(0, .ref (pl 203)), (1, .int (iI m)), (2, .int (iI (q + 1))), (3, .int (iI i)), (4, .int (iI (a 12 i)))] [] _ _ _ _
              refine pm_e_inc (y := iI (i + 1)) pm_a130_129 rfl (iI_add _ _) (by decide +kernel) rfl ?_
              show pm_E _ _ _ 132 [(0, .ref (pl 203)), (1, .int (iI m)), (2, .int (iI (q + 1))), (3, .int (iI (i + 1))), (4, .int (iI (a 12 i)))] [] _ _ _ _
              refine pm_e_goto pm_a130_132 rfl ?_
              show pm_E _ _ _ 60 [(0, .ref (pl 203)), (1, .int (iI m)), (2, .int (iI (q + 1))), (3, .int (iI (i + 1))), (4, .int (iI (a 12 i)))] [] _ _ _ _
              show pm_E _ _ _ 60 ([(0, .ref (pl 203)), (1, .int (iI m)), (2, .int (iI (q + 1))), (3, .int (iI (i + 1)))] ++ [(4, .int (iI (a 12 i)))]) [] _ _ _ _
              refine pm_e_more [(4, .int (iI (a 12 i)))] (show ([0, 1, 2, 3, 4] : List Nat).Nodup from by decide) ?_
              refine ih (i + 1) (q + 1) _ (fun j h1 h2 h3 => by simp [updA, h1, h2, h3, fA j h1 h2 h3]) hL5 ⟨_, (by rw [← e9, ← e10]; exact hkr2)⟩ (by omega)
          · skip
            replace t_1 : (a 13) (rt (a 9 (a 12 i))) - 1 = 0 := t_1
            have hkr1 := KH_rel hk1 (u := (rt (a 9 (a 12 i)))) (by omega) (by omega) (by omega) wA_u t_1
            rw [wA_off] at hkr1
            show pm_E _ _ _ 109 [(0, .ref (pl 203)), (1, .int (iI m)), (2, .int (iI q)), (3, .int (iI i)), (4, .int (iI (a 12 i)))] [.int (iI (q + 1))] _ _ _ _
            refine pm_e_sim pm_a130_109 rfl ?_
            show pm_E _ _ _ 110 [(0, .ref (pl 203)), (1, .int (iI m)), (2, .int (iI (q + 1))), (3, .int (iI i)), (4, .int (iI (a 12 i)))] [] _ _ _ _
            refine pm_e_sim pm_a130_110 rfl ?_
            show pm_E _ _ _ 111 [(0, .ref (pl 203)), (1, .int (iI m)), (2, .int (iI (q + 1))), (3, .int (iI i)), (4, .int (iI (a 12 i)))] [.ref (pl 203)] _ _ _ _
            refine pm_e_sim pm_a130_111 rfl ?_
            show pm_E _ _ _ 112 [(0, .ref (pl 203)), (1, .int (iI m)), (2, .int (iI (q + 1))), (3, .int (iI i)), (4, .int (iI (a 12 i)))] [.ref (pl 203), .ref (pl 203)] _ _ _ _
            refine pm_e_sim pm_a130_112 rfl ?_
            show pm_E _ _ _ 113 [(0, .ref (pl 203)), (1, .int (iI m)), (2, .int (iI (q + 1))), (3, .int (iI i)), (4, .int (iI (a 12 i)))] [.ref (pl 203), .ref (pl 203), .ref (pl 203)] _ _ _ _
            refine pm_i_get pm_a130_113 rfl (cg_203 hW h203) rfl ?_
            show pm_E _ _ _ 116 [(0, .ref (pl 203)), (1, .int (iI m)), (2, .int (iI (q + 1))), (3, .int (iI i)), (4, .int (iI (a 12 i)))] [.ref (pl 205), .ref (pl 203), .ref (pl 203)] _ _ _ _
            refine pm_e_sim pm_a130_116 rfl ?_
            show pm_E _ _ _ 118 [(0, .ref (pl 203)), (1, .int (iI m)), (2, .int (iI (q + 1))), (3, .int (iI i)), (4, .int (iI (a 12 i)))] [.int (iI (a 12 i)), .ref (pl 205), .ref (pl 203), .ref (pl 203)] _ _ _ _
            refine pm_e_call (T2 := pm_mm123) pm_a130_118 rfl rfl rfl rfl rfl rfl rfl rfl rfl ?_
            show pm_E none _ _ 0 [(0, .ref (pl 205)), (1, .int (iI (a 12 i)))] [] _ _ _ _
            refine C_zat_205 hW h203 (by omega) (by omega) ?_
            show pm_E _ _ _ 121 [(0, .ref (pl 203)), (1, .int (iI m)), (2, .int (iI (q + 1))), (3, .int (iI i)), (4, .int (iI (a 12 i)))] [.int (iI (a 10 (a 12 i))), .ref (pl 203), .ref (pl 203)] _ _ _ _
            refine pm_i_callv (k := (pl 203)) (T2 := pm_mm122) pm_a130_121 rfl rfl rfl (cg_203 hW h203) ⟨Nat.le_of_ble_eq_true rfl, Nat.le_of_ble_eq_true rfl, rfl, by decide +kernel⟩ ?_
            show pm_E none _ _ 0 [(0, .ref (pl 203)), (1, .int (iI (a 10 (a 12 i))))] [] _ _ _ _
            have r_6 := hr (a 10 (a 12 i)) (by omega) (by omega)
            refine C_zrootOf (rt := rt) hW h203 hK hL4 (by omega) (by omega) (fun lk6 hL6 hc6 => ?_)
            show pm_E _ _ _ 124 [(0, .ref (pl 203)), (1, .int (iI m)), (2, .int (iI (q + 1))), (3, .int (iI i)), (4, .int (iI (a 12 i)))] [.int (iI (rt (a 10 (a 12 i)))), .ref (pl 203)] _ _ _ _
            refine pm_e_sim pm_a130_124 rfl ?_
            show pm_E _ _ _ 125 [(0, .ref (pl 203)), (1, .int (iI m)), (2, .int (iI (q + 1))), (3, .int (iI i)), (4, .int (iI (a 12 i)))] [.int (iI (q + 1)), .int (iI (rt (a 10 (a 12 i)))), .ref (pl 203)] _ _ _ _
            refine pm_i_callv (k := (pl 203)) (T2 := pm_mm134) pm_a130_125 rfl rfl rfl (cg_203 hW h203) ⟨Nat.le_of_ble_eq_true rfl, Nat.le_of_ble_eq_true rfl, rfl, by decide +kernel⟩ ?_
            show pm_E none _ _ 0 [(0, .ref (pl 203)), (1, .int (iI (rt (a 10 (a 12 i))))), (2, .int (iI (q + 1)))] [] _ _ _ _
            have b_2 := KH_m hkr1 (u := (rt (a 10 (a 12 i)))) (by omega) (by omega)
            have q_2 := KH_w hkr1 (u := (rt (a 10 (a 12 i)))) (by omega) (by omega) (by omega) wB_v
            refine C_zrelease hW h203 (by omega) (by omega) ⟨b_2.1, Int.lt_of_le_of_lt b_2.2 (by omega)⟩ (by omega) (fun _ => by omega) (fun t_2 => ?_) (fun t_2 => ?_)
            · skip
              replace t_2 : (updI (a 13) (rt (a 9 (a 12 i))) ((a 13) (rt (a 9 (a 12 i))) - 1)) (rt (a 10 (a 12 i))) - 1 ≠ 0 := t_2
              have hko2 := KH_off hkr1 (u := (rt (a 10 (a 12 i)))) (by omega) (by omega) wB_v t_2
              rw [wB_off] at hko2
              show pm_E _ _ _ 128 [(0, .ref (pl 203)), (1, .int (iI m)), (2, .int (iI (q + 1))), (3, .int (iI i)), (4, .int (iI (a 12 i)))] [.int (iI (q + 1))] _ _ _ _
              refine pm_e_sim pm_a130_128 rfl ?_
              show pm_E _ _ _ 129 [(0, .ref (pl 203)), (1, .int (iI m)), (2, .int (iI (q + 1))), (3, .int (iI i)), (4, .int (iI (a 12 i)))] [] _ _ _ _
              refine pm_e_inc (y := iI (i + 1)) pm_a130_129 rfl (iI_add _ _) (by decide +kernel) rfl ?_
              show pm_E _ _ _ 132 [(0, .ref (pl 203)), (1, .int (iI m)), (2, .int (iI (q + 1))), (3, .int (iI (i + 1))), (4, .int (iI (a 12 i)))] [] _ _ _ _
              refine pm_e_goto pm_a130_132 rfl ?_
              show pm_E _ _ _ 60 [(0, .ref (pl 203)), (1, .int (iI m)), (2, .int (iI (q + 1))), (3, .int (iI (i + 1))), (4, .int (iI (a 12 i)))] [] _ _ _ _
              show pm_E _ _ _ 60 ([(0, .ref (pl 203)), (1, .int (iI m)), (2, .int (iI (q + 1))), (3, .int (iI (i + 1)))] ++ [(4, .int (iI (a 12 i)))]) [] _ _ _ _
              refine pm_e_more [(4, .int (iI (a 12 i)))] (show ([0, 1, 2, 3, 4] : List Nat).Nodup from by decide) ?_
              refine ih (i + 1) (q + 1) _ (fun j h1 h2 h3 => by simp [updA, h1, h2, h3, fA j h1 h2 h3]) hL6 ⟨_, (by rw [← e9, ← e10]; exact hko2)⟩ (by omega)
            · skip
              replace t_2 : (updI (a 13) (rt (a 9 (a 12 i))) ((a 13) (rt (a 9 (a 12 i))) - 1)) (rt (a 10 (a 12 i))) - 1 = 0 := t_2
              have hkr2 := KH_rel hkr1 (u := (rt (a 10 (a 12 i)))) (by omega) (by omega) (by omega) wB_v t_2
              rw [wB_off] at hkr2
              show pm_E _ _ _ 128 [(0, .ref (pl 203)), (1, .int (iI m)), (2, .int (iI (q + 1))), (3, .int (iI i)), (4, .int (iI (a 12 i)))] [.int (iI (q + 1 + 1))] _ _ _ _
              refine pm_e_sim pm_a130_128 rfl ?_
              show pm_E _ _ _ 129 [(0, .ref (pl 203)), (1, .int (iI m)), (2, .int (iI (q + 1 + 1))), (3, .int (iI i)), (4, .int (iI (a 12 i)))] [] _ _ _ _
              refine pm_e_inc (y := iI (i + 1)) pm_a130_129 rfl (iI_add _ _) (by decide +kernel) rfl ?_
              show pm_E _ _ _ 132 [(0, .ref (pl 203)), (1, .int (iI m)), (2, .int (iI (q + 1 + 1))), (3, .int (iI (i + 1))), (4, .int (iI (a 12 i)))] [] _ _ _ _
              refine pm_e_goto pm_a130_132 rfl ?_
              show pm_E _ _ _ 60 [(0, .ref (pl 203)), (1, .int (iI m)), (2, .int (iI (q + 1 + 1))), (3, .int (iI (i + 1))), (4, .int (iI (a 12 i)))] [] _ _ _ _
              show pm_E _ _ _ 60 ([(0, .ref (pl 203)), (1, .int (iI m)), (2, .int (iI (q + 1 + 1))), (3, .int (iI (i + 1)))] ++ [(4, .int (iI (a 12 i)))]) [] _ _ _ _
              refine pm_e_more [(4, .int (iI (a 12 i)))] (show ([0, 1, 2, 3, 4] : List Nat).Nodup from by decide) ?_
              refine ih (i + 1) (q + 1 + 1) _ (fun j h1 h2 h3 => by simp [updA, h1, h2, h3, fA j h1 h2 h3]) hL6 ⟨_, (by rw [← e9, ← e10]; exact hkr2)⟩ (by omega)
        · skip
          replace h_5 : a 9 (a 12 i) = -1 := h_5
          have hk1 := KH_one hk (by omega) h_5
          show pm_E _ _ _ 88 [(0, .ref (pl 203)), (1, .int (iI m)), (2, .int (iI q)), (3, .int (iI i)), (4, .int (iI (a 12 i)))] [.int (iI 0)] _ _ _ _
          refine pm_e_ift pm_a130_88 rfl (by decide +kernel) ?_
          show pm_E _ _ _ 129 [(0, .ref (pl 203)), (1, .int (iI m)), (2, .int (iI q)), (3, .int (iI i)), (4, .int (iI (a 12 i)))] [] _ _ _ _
          refine pm_e_inc (y := iI (i + 1)) pm_a130_129 rfl (iI_add _ _) (by decide +kernel) rfl ?_
          show pm_E _ _ _ 132 [(0, .ref (pl 203)), (1, .int (iI m)), (2, .int (iI q)), (3, .int (iI (i + 1))), (4, .int (iI (a 12 i)))] [] _ _ _ _
          refine pm_e_goto pm_a130_132 rfl ?_
          show pm_E _ _ _ 60 [(0, .ref (pl 203)), (1, .int (iI m)), (2, .int (iI q)), (3, .int (iI (i + 1))), (4, .int (iI (a 12 i)))] [] _ _ _ _
          show pm_E _ _ _ 60 ([(0, .ref (pl 203)), (1, .int (iI m)), (2, .int (iI q)), (3, .int (iI (i + 1)))] ++ [(4, .int (iI (a 12 i)))]) [] _ _ _ _
          refine pm_e_more [(4, .int (iI (a 12 i)))] (show ([0, 1, 2, 3, 4] : List Nat).Nodup from by decide) ?_
          refine ih (i + 1) q _ (fun j h1 h2 h3 => by simp [updA, h1, h2, h3, fA j h1 h2 h3]) hL ⟨_, (by rw [← e9, ← e10]; exact hk1)⟩ (by omega)
set_option maxHeartbeats 4000000 in
set_option maxRecDepth 100000 in
theorem C_zcirc1_l {d n : Nat} {kd pl : Nat → Nat} {M : List va_E} {Q : Option Value → List va_E → Nat → Nat → Prop} {s : Nat → Int} {c : Nat → cdt} {a0 : Nat → Int → Int} {rt : Int → Int} (hW : wf n kd pl) (h203 : al n kd pl 203) (hK : s 20 ≤ 2800) (hG : GC (s 20) (a0 9) (a0 10) (a0 11) rt) : ∀ (f : Nat) (i m q : Int) (a : Nat → Int → Int), 0 ≤ i → i ≤ s 20 → (∀ j, j ≠ 11 → j ≠ 12 → a j = a0 j) → LR (s 20) (a 11) rt → m = nq9 rt (fun _ => -1) i.toNat → (∃ ps, KH (s 20) (a0 9) (a0 10) rt i 0 q ps (a 13) (a 12) (fun _ => 0) ∧ ∀ x, i ≤ x → ps x = -1) → (∀ a', (∀ j, j ≠ 11 → j ≠ 12 → j ≠ 13 → a' j = a0 j) → LR (s 20) (a' 11) rt → ((∀ t, ¬ SOL (s 20) (-1) (a0 9) (a0 10) rt t) → Q (some (.int (iI 1))) (ch n kd pl s a' c M) 0 0) ∧ ((∃ h, RK (s 20) (-1) (a0 9) (a0 10) rt h) → Q (some (.int (iI 0))) (ch n kd pl s a' c M) 0 0)) → 2801 - i < (f : Int) → pm_E none (d + 3) pm_mm130 10 [(0, .ref (pl 203)), (1, .int (iI m)), (2, .int (iI q)), (3, .int (iI i))] [] (ch n kd pl s a c M) 0 0 Q := by
  intro f
  induction f with
  | zero =>
    intro i m q a h0 h1 fA hL hm hk k hf
    exfalso; omega
  | succ f ih =>
    intro i m q a h0 h1 fA hL hm hk k hf
    have e9 : a 9 = a0 9 := fA 9 (by omega) (by omega)
    have e10 : a 10 = a0 10 := fA 10 (by omega) (by omega)
    have hR : ∀ k, 0 ≤ k → k < s 20 → a 9 k ≠ -1 → (0 ≤ a 9 k ∧ a 9 k < s 20) ∧ (0 ≤ a 10 k ∧ a 10 k < s 20) := by rw [e9, e10]; exact (GI_rg hG.2).2
    have hr := hG.2.2.1
    have hK0 := hG.2.1
    have hFr : ∀ k, 0 ≤ k → k < s 20 → a 9 k = -1 ∨ (0 ≤ a 9 k ∧ a 9 k < s 20) := fun k z y => by
      by_cases c9 : a 9 k = -1
      · exact Or.inl c9
      · exact Or.inr (hR k z y c9).1
    obtain ⟨ps, hk, hp⟩ := hk
    have hi1 := hk.2.2.2.2.2.2.2.2
    have hq9 := KH_R hk
    have hm9 := nq9_nn (rt := rt) (ps := fun _ => -1) (n := i.toNat)
    refine pm_e_sim pm_a130_10 rfl ?_
    show pm_E _ _ _ 11 [(0, .ref (pl 203)), (1, .int (iI m)), (2, .int (iI q)), (3, .int (iI i))] [.int (iI i)] _ _ _ _
    refine pm_e_sim pm_a130_11 rfl ?_
    show pm_E _ _ _ 12 [(0, .ref (pl 203)), (1, .int (iI m)), (2, .int (iI q)), (3, .int (iI i))] [.ref (pl 203), .int (iI i)] _ _ _ _
    refine pm_i_get pm_a130_12 rfl (cg_203 hW h203) rfl ?_
    show pm_E _ _ _ 15 [(0, .ref (pl 203)), (1, .int (iI m)), (2, .int (iI q)), (3, .int (iI i))] [.int (iI (s 20)), .int (iI i)] _ _ _ _
    refine pm_c_ge (t := 58) pm_a130_15 rfl ⟨by omega, by omega⟩ ⟨by omega, by omega⟩ (fun h_1 => ?_) (fun h_1 => ?_)
    · skip
      show pm_E _ _ _ 58 [(0, .ref (pl 203)), (1, .int (iI m)), (2, .int (iI q)), (3, .int (iI i))] [] _ _ _ _
      refine pm_e_sim pm_a130_58 rfl ?_
      refine pm_e_top (y := iI 0) (by decide +kernel) ?_
      show pm_E _ _ _ 59 [(0, .ref (pl 203)), (1, .int (iI m)), (2, .int (iI q)), (3, .int (iI i))] [.int (iI 0)] _ _ _ _
      refine pm_e_sim pm_a130_59 rfl ?_
      show pm_E _ _ _ 60 [(0, .ref (pl 203)), (1, .int (iI m)), (2, .int (iI q)), (3, .int (iI 0))] [] _ _ _ _
      have hi : i = s 20 := by omega
      subst hi
      exact C_zcirc2_l (a0 := a0) (rt := rt) hW h203 hK hG hm k 2802 0 q a (fun j h1 h2 h3 => fA j h1 h2) hL ⟨ps, hk⟩ (by omega)
    · skip
      show pm_E _ _ _ 18 [(0, .ref (pl 203)), (1, .int (iI m)), (2, .int (iI q)), (3, .int (iI i))] [] _ _ _ _
      refine pm_e_sim pm_a130_18 rfl ?_
      show pm_E _ _ _ 19 [(0, .ref (pl 203)), (1, .int (iI m)), (2, .int (iI q)), (3, .int (iI i))] [.ref (pl 203)] _ _ _ _
      refine pm_e_sim pm_a130_19 rfl ?_
      show pm_E _ _ _ 20 [(0, .ref (pl 203)), (1, .int (iI m)), (2, .int (iI q)), (3, .int (iI i))] [.int (iI i), .ref (pl 203)] _ _ _ _
      refine pm_i_callv (k := (pl 203)) (T2 := pm_mm122) pm_a130_20 rfl rfl rfl (cg_203 hW h203) ⟨Nat.le_of_ble_eq_true rfl, Nat.le_of_ble_eq_true rfl, rfl, by decide +kernel⟩ ?_
      show pm_E none _ _ 0 [(0, .ref (pl 203)), (1, .int (iI i))] [] _ _ _ _
      have r_7 := hr i (by omega) (by omega)
      refine C_zrootOf (rt := rt) hW h203 hK hL (by omega) (by omega) (fun lk7 hL7 hc7 => ?_)
      show pm_E _ _ _ 23 [(0, .ref (pl 203)), (1, .int (iI m)), (2, .int (iI q)), (3, .int (iI i))] [.int (iI (rt i))] _ _ _ _
      refine pm_e_sim pm_a130_23 rfl ?_
      show pm_E _ _ _ 24 [(0, .ref (pl 203)), (1, .int (iI m)), (2, .int (iI q)), (3, .int (iI i))] [.int (iI i), .int (iI (rt i))] _ _ _ _
      refine pm_c_ne (t := 52) pm_a130_24 rfl ⟨by omega, by omega⟩ ⟨by omega, by omega⟩ (fun h_2 => ?_) (fun h_2 => ?_)
      · skip
        show pm_E _ _ _ 52 [(0, .ref (pl 203)), (1, .int (iI m)), (2, .int (iI q)), (3, .int (iI i))] [] _ _ _ _
        refine pm_e_inc (y := iI (i + 1)) pm_a130_52 rfl (iI_add _ _) (by decide +kernel) rfl ?_
        show pm_E _ _ _ 55 [(0, .ref (pl 203)), (1, .int (iI m)), (2, .int (iI q)), (3, .int (iI (i + 1)))] [] _ _ _ _
        refine pm_e_goto pm_a130_55 rfl ?_
        show pm_E _ _ _ 10 [(0, .ref (pl 203)), (1, .int (iI m)), (2, .int (iI q)), (3, .int (iI (i + 1)))] [] _ _ _ _
        refine ih (i + 1) m q _ (by omega) (by omega) (fun j h1 h2 => by simp [updA, h1, h2, fA j h1 h2]) hL7 (by rw [nr9_no h0 (by omega)]; omega) ⟨ps, (KH_b hk (fun x a1 b1 c1 d1 e1 => ?_)), fun x hx => ?_⟩ k (by omega)
        · by_cases cx : x = i
          · subst cx; show a 13 x ≠ 0; omega
          · exact hk.2.2.2.2.1 x a1 (by omega) c1 d1 e1
        · exact hp x (by omega)
      · skip
        show pm_E _ _ _ 27 [(0, .ref (pl 203)), (1, .int (iI m)), (2, .int (iI q)), (3, .int (iI i))] [] _ _ _ _
        refine pm_e_inc (y := iI (m + 1)) pm_a130_27 rfl (iI_add _ _) (by decide +kernel) rfl ?_
        show pm_E _ _ _ 30 [(0, .ref (pl 203)), (1, .int (iI (m + 1))), (2, .int (iI q)), (3, .int (iI i))] [] _ _ _ _
        refine pm_e_sim pm_a130_30 rfl ?_
        show pm_E _ _ _ 31 [(0, .ref (pl 203)), (1, .int (iI (m + 1))), (2, .int (iI q)), (3, .int (iI i))] [.ref (pl 203)] _ _ _ _
        refine pm_i_get pm_a130_31 rfl (cg_203 hW h203) rfl ?_
        show pm_E _ _ _ 34 [(0, .ref (pl 203)), (1, .int (iI (m + 1))), (2, .int (iI q)), (3, .int (iI i))] [.ref (pl 208)] _ _ _ _
        refine pm_e_sim pm_a130_34 rfl ?_
        show pm_E _ _ _ 35 [(0, .ref (pl 203)), (1, .int (iI (m + 1))), (2, .int (iI q)), (3, .int (iI i))] [.int (iI i), .ref (pl 208)] _ _ _ _
        refine pm_e_call (T2 := pm_mm123) pm_a130_35 rfl rfl rfl rfl rfl rfl rfl rfl rfl ?_
        show pm_E none _ _ 0 [(0, .ref (pl 208)), (1, .int (iI i))] [] _ _ _ _
        refine C_zat_208 hW h203 (by omega) (by omega) ?_
        have b_m := KH_m hk (u := i) (by omega) (by omega)
        show pm_E _ _ _ 38 [(0, .ref (pl 203)), (1, .int (iI (m + 1))), (2, .int (iI q)), (3, .int (iI i))] [.int (iI (a 13 i))] _ _ _ _
        refine pm_i_ne (t := 50) pm_a130_38 rfl ⟨by omega, by omega⟩ (fun h_3 => ?_) (fun h_3 => ?_)
        · skip
          show pm_E _ _ _ 50 [(0, .ref (pl 203)), (1, .int (iI (m + 1))), (2, .int (iI q)), (3, .int (iI i))] [] _ _ _ _
          refine pm_e_sim pm_a130_50 rfl ?_
          show pm_E _ _ _ 51 [(0, .ref (pl 203)), (1, .int (iI (m + 1))), (2, .int (iI q)), (3, .int (iI i))] [.int (iI q)] _ _ _ _
          refine pm_e_sim pm_a130_51 rfl ?_
          show pm_E _ _ _ 52 [(0, .ref (pl 203)), (1, .int (iI (m + 1))), (2, .int (iI q)), (3, .int (iI i))] [] _ _ _ _
          refine pm_e_inc (y := iI (i + 1)) pm_a130_52 rfl (iI_add _ _) (by decide +kernel) rfl ?_
          show pm_E _ _ _ 55 [(0, .ref (pl 203)), (1, .int (iI (m + 1))), (2, .int (iI q)), (3, .int (iI (i + 1)))] [] _ _ _ _
          refine pm_e_goto pm_a130_55 rfl ?_
          show pm_E _ _ _ 10 [(0, .ref (pl 203)), (1, .int (iI (m + 1))), (2, .int (iI q)), (3, .int (iI (i + 1)))] [] _ _ _ _
          refine ih (i + 1) (m + 1) q _ (by omega) (by omega) (fun j h1 h2 => by simp [updA, h1, h2, fA j h1 h2]) hL7 (by rw [nr9_yes h0 (by omega)]; omega) ⟨ps, (KH_b hk (fun x a1 b1 c1 d1 e1 => ?_)), fun x hx => ?_⟩ k (by omega)
          · by_cases cx : x = i
            · subst cx; show a 13 x ≠ 0; omega
            · exact hk.2.2.2.2.1 x a1 (by omega) c1 d1 e1
          · exact hp x (by omega)
        · skip
          show pm_E _ _ _ 41 [(0, .ref (pl 203)), (1, .int (iI (m + 1))), (2, .int (iI q)), (3, .int (iI i))] [] _ _ _ _
          refine pm_e_sim pm_a130_41 rfl ?_
          show pm_E _ _ _ 42 [(0, .ref (pl 203)), (1, .int (iI (m + 1))), (2, .int (iI q)), (3, .int (iI i))] [.ref (pl 203)] _ _ _ _
          refine pm_e_sim pm_a130_42 rfl ?_
          show pm_E _ _ _ 43 [(0, .ref (pl 203)), (1, .int (iI (m + 1))), (2, .int (iI q)), (3, .int (iI i))] [.int (iI i), .ref (pl 203)] _ _ _ _
          refine pm_e_sim pm_a130_43 rfl ?_
          show pm_E _ _ _ 44 [(0, .ref (pl 203)), (1, .int (iI (m + 1))), (2, .int (iI q)), (3, .int (iI i))] [.int (iI q), .int (iI i), .ref (pl 203)] _ _ _ _
          refine pm_i_callv (k := (pl 203)) (T2 := pm_mm125) pm_a130_44 rfl rfl rfl (cg_203 hW h203) ⟨Nat.le_of_ble_eq_true rfl, Nat.le_of_ble_eq_true rfl, rfl, by decide +kernel⟩ ?_
          show pm_E none _ _ 0 [(0, .ref (pl 203)), (1, .int (iI i)), (2, .int (iI q))] [] _ _ _ _
          have q_8 := KH_q hk (u := i) (by omega) (by omega) (by omega) (hp i (by omega))
          refine C_zenqueue hW h203 (by omega) (by omega) ?_
          show pm_E _ _ _ 47 [(0, .ref (pl 203)), (1, .int (iI (m + 1))), (2, .int (iI q)), (3, .int (iI i))] [.int (iI (q + 1))] _ _ _ _
          refine pm_e_goto pm_a130_47 rfl ?_
          show pm_E _ _ _ 51 [(0, .ref (pl 203)), (1, .int (iI (m + 1))), (2, .int (iI q)), (3, .int (iI i))] [.int (iI (q + 1))] _ _ _ _
          refine pm_e_sim pm_a130_51 rfl ?_
          show pm_E _ _ _ 52 [(0, .ref (pl 203)), (1, .int (iI (m + 1))), (2, .int (iI (q + 1))), (3, .int (iI i))] [] _ _ _ _
          refine pm_e_inc (y := iI (i + 1)) pm_a130_52 rfl (iI_add _ _) (by decide +kernel) rfl ?_
          show pm_E _ _ _ 55 [(0, .ref (pl 203)), (1, .int (iI (m + 1))), (2, .int (iI (q + 1))), (3, .int (iI (i + 1)))] [] _ _ _ _
          refine pm_e_goto pm_a130_55 rfl ?_
          show pm_E _ _ _ 10 [(0, .ref (pl 203)), (1, .int (iI (m + 1))), (2, .int (iI (q + 1))), (3, .int (iI (i + 1)))] [] _ _ _ _
          refine ih (i + 1) (m + 1) (q + 1) _ (by omega) (by omega) (fun j h1 h2 => by simp [updA, h1, h2, fA j h1 h2]) hL7 (by rw [nr9_yes h0 (by omega)]; omega) ⟨updI ps i q, (KH_b (KH_enq hk h0 (by omega) (by omega) (hp i (by omega)) (by omega)) (fun x a1 b1 c1 d1 e1 => ?_)), fun x hx => ?_⟩ k (by omega)
          · by_cases cx : x = i
            · rw [cx, updI_s] at e1; omega
            · rw [updI_n _ _ cx] at e1; exact hk.2.2.2.2.1 x a1 (by omega) c1 d1 e1
          · rw [updI_n _ _ (by omega)]; exact hp x (by omega)
set_option maxHeartbeats 4000000 in
set_option maxRecDepth 100000 in
theorem C_zhasCircle {d n : Nat} {kd pl : Nat → Nat} {s : Nat → Int} {a : Nat → Int → Int} {c : Nat → cdt} {M : List va_E} {Q : Option Value → List va_E → Nat → Nat → Prop} {rt : Int → Int} (hW : wf n kd pl) (h203 : al n kd pl 203) (hK : s 20 ≤ 2800) (hG : GC (s 20) (a 9) (a 10) (a 11) rt) (k : ∀ a', (∀ j, j ≠ 11 → j ≠ 12 → j ≠ 13 → a' j = a j) → LR (s 20) (a' 11) rt → ((∀ t, ¬ SOL (s 20) (-1) (a 9) (a 10) rt t) → Q (some (.int (iI 1))) (ch n kd pl s a' c M) 0 0) ∧ ((∃ h, RK (s 20) (-1) (a 9) (a 10) rt h) → Q (some (.int (iI 0))) (ch n kd pl s a' c M) 0 0)) : pm_E none (d + 3) pm_mm130 0 [(0, .ref (pl 203))] [] (ch n kd pl s a c M) 0 0 Q := by
  refine pm_e_sim pm_a130_0 rfl ?_
  show pm_E _ _ _ 1 [(0, .ref (pl 203))] [.ref (pl 203)] _ _ _ _
  refine pm_i_callv (k := (pl 203)) (T2 := pm_mm131) pm_a130_1 rfl rfl rfl (cg_203 hW h203) ⟨Nat.le_of_ble_eq_true rfl, Nat.le_of_ble_eq_true rfl, rfl, by decide +kernel⟩ ?_
  show pm_E none _ _ 0 [(0, .ref (pl 203))] [] _ _ _ _
  refine C_zcountSides (rt := rt) hW h203 hK hG (fun a1 fr1 hL1 hm1 => ?_)
  show pm_E _ _ _ 4 [(0, .ref (pl 203))] [] _ _ _ _
  refine pm_e_sim pm_a130_4 rfl ?_
  refine pm_e_top (y := iI 0) (by decide +kernel) ?_
  show pm_E _ _ _ 5 [(0, .ref (pl 203))] [.int (iI 0)] _ _ _ _
  refine pm_e_sim pm_a130_5 rfl ?_
  show pm_E _ _ _ 6 [(0, .ref (pl 203)), (1, .int (iI 0))] [] _ _ _ _
  refine pm_e_sim pm_a130_6 rfl ?_
  refine pm_e_top (y := iI 0) (by decide +kernel) ?_
  show pm_E _ _ _ 7 [(0, .ref (pl 203)), (1, .int (iI 0))] [.int (iI 0)] _ _ _ _
  refine pm_e_sim pm_a130_7 rfl ?_
  show pm_E _ _ _ 8 [(0, .ref (pl 203)), (1, .int (iI 0)), (2, .int (iI 0))] [] _ _ _ _
  refine pm_e_sim pm_a130_8 rfl ?_
  refine pm_e_top (y := iI 0) (by decide +kernel) ?_
  show pm_E _ _ _ 9 [(0, .ref (pl 203)), (1, .int (iI 0)), (2, .int (iI 0))] [.int (iI 0)] _ _ _ _
  refine pm_e_sim pm_a130_9 rfl ?_
  show pm_E _ _ _ 10 [(0, .ref (pl 203)), (1, .int (iI 0)), (2, .int (iI 0)), (3, .int (iI 0))] [] _ _ _ _
  refine C_zcirc1_l (a0 := a1) (rt := rt) hW h203 hK (by rw [fr1 9 (by omega) (by omega), fr1 10 (by omega) (by omega)]; exact ⟨hL1, hG.2⟩) 2802 0 0 0 a1 (by omega) hG.2.1 (fun j _ _ => rfl) hL1 rfl ⟨fun _ => -1, KH_beg (by rw [fr1 9 (by omega) (by omega), fr1 10 (by omega) (by omega)]; exact hm1), fun _ _ => rfl⟩ (fun a2 fr2 hL2 => ?_) (by omega)
  rw [fr1 9 (by omega) (by omega), fr1 10 (by omega) (by omega)]
  exact k a2 (fun j h1 h2 h3 => by rw [fr2 j h1 h2 h3, fr1 j h1 h3]) hL2
