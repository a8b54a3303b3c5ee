/-! THE CLASS: Reader: the small ones -/
set_option maxHeartbeats 4000000 in
set_option maxRecDepth 100000 in
theorem C_isSmall {d n : Nat} {kd pl : Nat → Nat} {s : Nat → Int} {a : Nat → Int → Int} {c : Nat → cdt} {M : List va_E} {Q : Option Value → List va_E → Nat → Nat → Prop} {x : Int} (hx : in32 x) (k1 : 97 ≤ x → x ≤ 122 → Q (some (.int (iI 1))) (ch n kd pl s a c M) 0 0) (k0 : x < 97 ∨ 122 < x → Q (some (.int (iI 0))) (ch n kd pl s a c M) 0 0) : pm_E none d pm_mm20 0 [(0, .int (iI x))] [] (ch n kd pl s a c M) 0 0 Q := by
  obtain ⟨_, _⟩ := id hx
  refine pm_e_sim pm_a20_0 rfl ?_
  show pm_E _ _ _ 1 [(0, .int (iI x))] [.int (iI x)] _ _ _ _
  refine pm_e_sim pm_a20_1 rfl ?_
  refine pm_e_top (y := iI 97) (by decide +kernel) ?_
  show pm_E _ _ _ 3 [(0, .int (iI x))] [.int (iI 97), .int (iI x)] _ _ _ _
  refine pm_c_lt (t := 16) pm_a20_3 rfl ⟨by omega, by omega⟩ ⟨by omega, by omega⟩ (fun h_1 => ?_) (fun h_1 => ?_)
  · skip
    show pm_E _ _ _ 16 [(0, .int (iI x))] [] _ _ _ _
    refine pm_e_sim pm_a20_16 rfl ?_
    refine pm_e_top (y := iI 0) (by decide +kernel) ?_
    show pm_E _ _ _ 17 [(0, .int (iI x))] [.int (iI 0)] _ _ _ _
    refine pm_e_ret pm_a20_17 rfl rfl rfl rfl rfl rfl rfl rfl ?_
    exact k0 (by omega)
  · skip
    show pm_E _ _ _ 6 [(0, .int (iI x))] [] _ _ _ _
    refine pm_e_sim pm_a20_6 rfl ?_
    show pm_E _ _ _ 7 [(0, .int (iI x))] [.int (iI x)] _ _ _ _
    refine pm_e_sim pm_a20_7 rfl ?_
    refine pm_e_top (y := iI 122) (by decide +kernel) ?_
    show pm_E _ _ _ 9 [(0, .int (iI x))] [.int (iI 122), .int (iI x)] _ _ _ _
    refine pm_c_gt (t := 16) pm_a20_9 rfl ⟨by omega, by omega⟩ ⟨by omega, by omega⟩ (fun h_2 => ?_) (fun h_2 => ?_)
    · skip
      show pm_E _ _ _ 16 [(0, .int (iI x))] [] _ _ _ _
      refine pm_e_sim pm_a20_16 rfl ?_
      refine pm_e_top (y := iI 0) (by decide +kernel) ?_
      show pm_E _ _ _ 17 [(0, .int (iI x))] [.int (iI 0)] _ _ _ _
      refine pm_e_ret pm_a20_17 rfl rfl rfl rfl rfl rfl rfl rfl ?_
      exact k0 (by omega)
    · skip
      show pm_E _ _ _ 12 [(0, .int (iI x))] [] _ _ _ _
      refine pm_e_sim pm_a20_12 rfl ?_
      refine pm_e_top (y := iI 1) (by decide +kernel) ?_
      show pm_E _ _ _ 13 [(0, .int (iI x))] [.int (iI 1)] _ _ _ _
      refine pm_e_goto pm_a20_13 rfl ?_
      show pm_E _ _ _ 17 [(0, .int (iI x))] [.int (iI 1)] _ _ _ _
      refine pm_e_ret pm_a20_17 rfl rfl rfl rfl rfl rfl rfl rfl ?_
      exact k1 (by omega) (by omega)
set_option maxHeartbeats 4000000 in
set_option maxRecDepth 100000 in
theorem C_isFigure {d n : Nat} {kd pl : Nat → Nat} {s : Nat → Int} {a : Nat → Int → Int} {c : Nat → cdt} {M : List va_E} {Q : Option Value → List va_E → Nat → Nat → Prop} {x : Int} (hx : in32 x) (k1 : 48 ≤ x → x ≤ 57 → Q (some (.int (iI 1))) (ch n kd pl s a c M) 0 0) (k0 : x < 48 ∨ 57 < x → Q (some (.int (iI 0))) (ch n kd pl s a c M) 0 0) : pm_E none d pm_mm23 0 [(0, .int (iI x))] [] (ch n kd pl s a c M) 0 0 Q := by
  obtain ⟨_, _⟩ := id hx
  refine pm_e_sim pm_a23_0 rfl ?_
  show pm_E _ _ _ 1 [(0, .int (iI x))] [.int (iI x)] _ _ _ _
  refine pm_e_sim pm_a23_1 rfl ?_
  refine pm_e_top (y := iI 48) (by decide +kernel) ?_
  show pm_E _ _ _ 3 [(0, .int (iI x))] [.int (iI 48), .int (iI x)] _ _ _ _
  refine pm_c_lt (t := 16) pm_a23_3 rfl ⟨by omega, by omega⟩ ⟨by omega, by omega⟩ (fun h_1 => ?_) (fun h_1 => ?_)
  · skip
    show pm_E _ _ _ 16 [(0, .int (iI x))] [] _ _ _ _
    refine pm_e_sim pm_a23_16 rfl ?_
    refine pm_e_top (y := iI 0) (by decide +kernel) ?_
    show pm_E _ _ _ 17 [(0, .int (iI x))] [.int (iI 0)] _ _ _ _
    refine pm_e_ret pm_a23_17 rfl rfl rfl rfl rfl rfl rfl rfl ?_
    exact k0 (by omega)
  · skip
    show pm_E _ _ _ 6 [(0, .int (iI x))] [] _ _ _ _
    refine pm_e_sim pm_a23_6 rfl ?_
    show pm_E _ _ _ 7 [(0, .int (iI x))] [.int (iI x)] _ _ _ _
    refine pm_e_sim pm_a23_7 rfl ?_
    refine pm_e_top (y := iI 57) (by decide +kernel) ?_
    show pm_E _ _ _ 9 [(0, .int (iI x))] [.int (iI 57), .int (iI x)] _ _ _ _
    refine pm_c_gt (t := 16) pm_a23_9 rfl ⟨by omega, by omega⟩ ⟨by omega, by omega⟩ (fun h_2 => ?_) (fun h_2 => ?_)
    · skip
      show pm_E _ _ _ 16 [(0, .int (iI x))] [] _ _ _ _
      refine pm_e_sim pm_a23_16 rfl ?_
      refine pm_e_top (y := iI 0) (by decide +kernel) ?_
      show pm_E _ _ _ 17 [(0, .int (iI x))] [.int (iI 0)] _ _ _ _
      refine pm_e_ret pm_a23_17 rfl rfl rfl rfl rfl rfl rfl rfl ?_
      exact k0 (by omega)
    · skip
      show pm_E _ _ _ 12 [(0, .int (iI x))] [] _ _ _ _
      refine pm_e_sim pm_a23_12 rfl ?_
      refine pm_e_top (y := iI 1) (by decide +kernel) ?_
      show pm_E _ _ _ 13 [(0, .int (iI x))] [.int (iI 1)] _ _ _ _
      refine pm_e_goto pm_a23_13 rfl ?_
      show pm_E _ _ _ 17 [(0, .int (iI x))] [.int (iI 1)] _ _ _ _
      refine pm_e_ret pm_a23_17 rfl rfl rfl rfl rfl rfl rfl rfl ?_
      exact k1 (by omega) (by omega)
set_option maxHeartbeats 4000000 in
set_option maxRecDepth 100000 in
theorem C_r_fail {d n : Nat} {kd pl : Nat → Nat} {s : Nat → Int} {a : Nat → Int → Int} {c : Nat → cdt} {M : List va_E} {Q : Option Value → List va_E → Nat → Nat → Prop} {x : Int} (hW : wf n kd pl) (k : ∀ s', (s' 12 = x ∧ s' 13 = s 10) → (∀ i, i ≠ 12 → i ≠ 13 → s' i = s i) → Q none (ch n kd pl s' a c M) 0 0) : pm_E none d pm_mm22 0 [(0, .ref (pl 9)), (1, .int (iI x))] [] (ch n kd pl s a c M) 0 0 Q := by
  refine pm_e_sim pm_a22_0 rfl ?_
  show pm_E _ _ _ 1 [(0, .ref (pl 9)), (1, .int (iI x))] [.ref (pl 9)] _ _ _ _
  refine pm_e_sim pm_a22_1 rfl ?_
  show pm_E _ _ _ 2 [(0, .ref (pl 9)), (1, .int (iI x))] [.int (iI x), .ref (pl 9)] _ _ _ _
  refine pm_i_put pm_a22_2 rfl (cg_9 hW) rfl (Nat.le_of_ble_eq_true rfl) (Or.inl rfl) (cw_12 hW x) ?_
  show pm_E _ _ _ 5 [(0, .ref (pl 9)), (1, .int (iI x))] [] _ _ _ _
  refine pm_e_sim pm_a22_5 rfl ?_
  show pm_E _ _ _ 6 [(0, .ref (pl 9)), (1, .int (iI x))] [.ref (pl 9)] _ _ _ _
  refine pm_e_sim pm_a22_6 rfl ?_
  show pm_E _ _ _ 7 [(0, .ref (pl 9)), (1, .int (iI x))] [.ref (pl 9), .ref (pl 9)] _ _ _ _
  refine pm_i_get pm_a22_7 rfl (cg_9 hW) rfl ?_
  show pm_E _ _ _ 10 [(0, .ref (pl 9)), (1, .int (iI x))] [.int (iI (s 10)), .ref (pl 9)] _ _ _ _
  refine pm_i_put pm_a22_10 rfl (cg_9 hW) rfl (Nat.le_of_ble_eq_true rfl) (Or.inl rfl) (cw_13 hW (s 10)) ?_
  show pm_E _ _ _ 13 [(0, .ref (pl 9)), (1, .int (iI x))] [] _ _ _ _
  refine pm_e_ret pm_a22_13 rfl rfl rfl rfl rfl rfl rfl rfl ?_
  exact k _ ⟨rfl, rfl⟩ (fun i n12 n13 => by simp only [updS]; rw [if_neg n13, if_neg n12])
set_option maxHeartbeats 4000000 in
set_option maxRecDepth 100000 in
theorem C_r_putItem {d n : Nat} {kd pl : Nat → Nat} {s : Nat → Int} {a : Nat → Int → Int} {c : Nat → cdt} {M : List va_E} {Q : Option Value → List va_E → Nat → Nat → Prop} {x : Int} (hW : wf n kd pl) (h5 : 0 ≤ s 5) (h5' : s 5 < 601) (k : ∀ s' a', s' 5 = s 5 + 1 → (∀ i, i ≠ 5 → s' i = s i) → a' 3 = updI (a 3) (s 5) x → (∀ i, i ≠ 3 → a' i = a i) → Q none (ch n kd pl s' a' c M) 0 0) : pm_E none d pm_mm16 0 [(0, .ref (pl 9)), (1, .int (iI x))] [] (ch n kd pl s a c M) 0 0 Q := by
  refine pm_e_sim pm_a16_0 rfl ?_
  show pm_E _ _ _ 1 [(0, .ref (pl 9)), (1, .int (iI x))] [.ref (pl 9)] _ _ _ _
  refine pm_i_get pm_a16_1 rfl (cg_9 hW) rfl ?_
  show pm_E _ _ _ 4 [(0, .ref (pl 9)), (1, .int (iI x))] [.int (iI (s 5))] _ _ _ _
  refine pm_i_lt (t := 39) pm_a16_4 rfl ⟨by omega, by omega⟩ (fun h_1 => ?_) (fun h_1 => ?_)
  · skip
    exfalso; omega
  · skip
    show pm_E _ _ _ 7 [(0, .ref (pl 9)), (1, .int (iI x))] [] _ _ _ _
    refine pm_e_sim pm_a16_7 rfl ?_
    show pm_E _ _ _ 8 [(0, .ref (pl 9)), (1, .int (iI x))] [.ref (pl 9)] _ _ _ _
    refine pm_i_get pm_a16_8 rfl (cg_9 hW) rfl ?_
    show pm_E _ _ _ 11 [(0, .ref (pl 9)), (1, .int (iI x))] [.int (iI (s 5))] _ _ _ _
    refine pm_e_sim pm_a16_11 rfl ?_
    show pm_E _ _ _ 12 [(0, .ref (pl 9)), (1, .int (iI x))] [.ref (pl 9), .int (iI (s 5))] _ _ _ _
    refine pm_i_get pm_a16_12 rfl (cg_9 hW) rfl ?_
    show pm_E _ _ _ 15 [(0, .ref (pl 9)), (1, .int (iI x))] [.ref (pl 10), .int (iI (s 5))] _ _ _ _
    refine pm_i_aln pm_a16_15 (cg_10 hW) ?_
    show pm_E _ _ _ 16 [(0, .ref (pl 9)), (1, .int (iI x))] [.int (iI 601), .int (iI (s 5))] _ _ _ _
    refine pm_c_ge (t := 39) pm_a16_16 rfl ⟨by omega, by omega⟩ ⟨by omega, by omega⟩ (fun h_2 => ?_) (fun h_2 => ?_)
    · skip
      exfalso; omega
    · skip
      show pm_E _ _ _ 19 [(0, .ref (pl 9)), (1, .int (iI x))] [] _ _ _ _
      refine pm_e_sim pm_a16_19 rfl ?_
      show pm_E _ _ _ 20 [(0, .ref (pl 9)), (1, .int (iI x))] [.ref (pl 9)] _ _ _ _
      refine pm_i_get pm_a16_20 rfl (cg_9 hW) rfl ?_
      show pm_E _ _ _ 23 [(0, .ref (pl 9)), (1, .int (iI x))] [.ref (pl 10)] _ _ _ _
      refine pm_e_sim pm_a16_23 rfl ?_
      show pm_E _ _ _ 24 [(0, .ref (pl 9)), (1, .int (iI x))] [.ref (pl 9), .ref (pl 10)] _ _ _ _
      refine pm_i_get pm_a16_24 rfl (cg_9 hW) rfl ?_
      show pm_E _ _ _ 27 [(0, .ref (pl 9)), (1, .int (iI x))] [.int (iI (s 5)), .ref (pl 10)] _ _ _ _
      refine pm_e_sim pm_a16_27 rfl ?_
      show pm_E _ _ _ 28 [(0, .ref (pl 9)), (1, .int (iI x))] [.int (iI x), .int (iI (s 5)), .ref (pl 10)] _ _ _ _
      refine pm_i_ast pm_a16_28 (cg_10 hW) (by omega) (by omega) ⟨by omega, by omega⟩ (ca_10 hW _) ?_
      show pm_E _ _ _ 29 [(0, .ref (pl 9)), (1, .int (iI x))] [] _ _ _ _
      refine pm_e_sim pm_a16_29 rfl ?_
      show pm_E _ _ _ 30 [(0, .ref (pl 9)), (1, .int (iI x))] [.ref (pl 9)] _ _ _ _
      refine pm_e_sim pm_a16_30 rfl ?_
      show pm_E _ _ _ 31 [(0, .ref (pl 9)), (1, .int (iI x))] [.ref (pl 9), .ref (pl 9)] _ _ _ _
      refine pm_i_get pm_a16_31 rfl (cg_9 hW) rfl ?_
      show pm_E _ _ _ 34 [(0, .ref (pl 9)), (1, .int (iI x))] [.int (iI (s 5)), .ref (pl 9)] _ _ _ _
      refine pm_e_sim pm_a16_34 rfl ?_
      refine pm_e_top (y := iI 1) (by decide +kernel) ?_
      show pm_E _ _ _ 35 [(0, .ref (pl 9)), (1, .int (iI x))] [.int (iI 1), .int (iI (s 5)), .ref (pl 9)] _ _ _ _
      refine pm_e_sim pm_a16_35 rfl ?_
      refine pm_e_top (y := iI (s 5 + 1)) (iI_add _ _) ?_
      show pm_E _ _ _ 36 [(0, .ref (pl 9)), (1, .int (iI x))] [.int (iI (s 5 + 1)), .ref (pl 9)] _ _ _ _
      refine pm_i_put pm_a16_36 rfl (cg_9 hW) rfl (Nat.le_of_ble_eq_true rfl) (Or.inl rfl) (cw_5 hW (s 5 + 1)) ?_
      show pm_E _ _ _ 39 [(0, .ref (pl 9)), (1, .int (iI x))] [] _ _ _ _
      refine pm_e_ret pm_a16_39 rfl rfl rfl rfl rfl rfl rfl rfl ?_
      exact k _ _ rfl (fun i n5 => by simp only [updS]; rw [if_neg n5]) rfl (fun i n3 => by simp only [updA]; rw [if_neg n3])
set_option maxHeartbeats 4000000 in
set_option maxRecDepth 100000 in
theorem C_r_startRow {d n : Nat} {kd pl : Nat → Nat} {s : Nat → Int} {a : Nat → Int → Int} {c : Nat → cdt} {M : List va_E} {Q : Option Value → List va_E → Nat → Nat → Prop} (hW : wf n kd pl) (h5 : 0 ≤ s 5) (h5' : s 5 < 601) (k : ∀ s' a', s' 5 = s 5 + 1 → s' 6 = s 5 → (∀ i, i ≠ 5 → i ≠ 6 → s' i = s i) → a' 3 = updI (a 3) (s 5) 0 → (∀ i, i ≠ 3 → a' i = a i) → Q none (ch n kd pl s' a' c M) 0 0) : pm_E none (d + 1) pm_mm15 0 [(0, .ref (pl 9))] [] (ch n kd pl s a c M) 0 0 Q := by
  refine pm_e_sim pm_a15_0 rfl ?_
  show pm_E _ _ _ 1 [(0, .ref (pl 9))] [.ref (pl 9)] _ _ _ _
  refine pm_e_sim pm_a15_1 rfl ?_
  show pm_E _ _ _ 2 [(0, .ref (pl 9))] [.ref (pl 9), .ref (pl 9)] _ _ _ _
  refine pm_i_get pm_a15_2 rfl (cg_9 hW) rfl ?_
  show pm_E _ _ _ 5 [(0, .ref (pl 9))] [.int (iI (s 5)), .ref (pl 9)] _ _ _ _
  refine pm_i_put pm_a15_5 rfl (cg_9 hW) rfl (Nat.le_of_ble_eq_true rfl) (Or.inl rfl) (cw_6 hW (s 5)) ?_
  show pm_E _ _ _ 8 [(0, .ref (pl 9))] [] _ _ _ _
  refine pm_e_sim pm_a15_8 rfl ?_
  show pm_E _ _ _ 9 [(0, .ref (pl 9))] [.ref (pl 9)] _ _ _ _
  refine pm_e_sim pm_a15_9 rfl ?_
  refine pm_e_top (y := iI 0) (by decide +kernel) ?_
  show pm_E _ _ _ 10 [(0, .ref (pl 9))] [.int (iI 0), .ref (pl 9)] _ _ _ _
  refine pm_i_callv (k := (pl 9)) (T2 := pm_mm16) pm_a15_10 rfl rfl rfl (cg_9 hW) ⟨Nat.le_of_ble_eq_true rfl, Nat.le_of_ble_eq_true rfl, rfl, by decide +kernel⟩ ?_
  show pm_E none _ _ 0 [(0, .ref (pl 9)), (1, .int (iI 0))] [] _ _ _ _
  refine C_r_putItem hW (by show 0 ≤ s 5; omega) (by show s 5 < 601; omega) (fun s_1 a_1 f_1 g_1 p_1 q_1 => ?_)
  have e0_1 : s_1 0 = s 0 := g_1 0 (by decide)
  have e1_1 : s_1 1 = s 1 := g_1 1 (by decide)
  have e2_1 : s_1 2 = s 2 := g_1 2 (by decide)
  have e3_1 : s_1 3 = s 3 := g_1 3 (by decide)
  have e4_1 : s_1 4 = s 4 := g_1 4 (by decide)
  have e6_1 : s_1 6 = s 5 := g_1 6 (by decide)
  have e7_1 : s_1 7 = s 7 := g_1 7 (by decide)
  have e8_1 : s_1 8 = s 8 := g_1 8 (by decide)
  have e9_1 : s_1 9 = s 9 := g_1 9 (by decide)
  have e10_1 : s_1 10 = s 10 := g_1 10 (by decide)
  have e11_1 : s_1 11 = s 11 := g_1 11 (by decide)
  have e12_1 : s_1 12 = s 12 := g_1 12 (by decide)
  have e13_1 : s_1 13 = s 13 := g_1 13 (by decide)
  have e5_1 : s_1 5 = s 5 + 1 := f_1
  show pm_E _ _ _ 13 [(0, .ref (pl 9))] [] _ _ _ _
  refine pm_e_ret pm_a15_13 rfl rfl rfl rfl rfl rfl rfl rfl ?_
  refine k s_1 a_1 e5_1 e6_1 (fun i n5 n6 => ?_) p_1 q_1
  rw [g_1 i n5]
  simp only [updS]
  rw [if_neg n6]
set_option maxHeartbeats 4000000 in
set_option maxRecDepth 100000 in
theorem C_r_countPart {d n : Nat} {kd pl : Nat → Nat} {s : Nat → Int} {a : Nat → Int → Int} {c : Nat → cdt} {M : List va_E} {Q : Option Value → List va_E → Nat → Nat → Prop} (hW : wf n kd pl) (h6 : 0 ≤ s 6) (h6' : s 6 < 601) (k : ∀ a', a' 3 = updI (a 3) (s 6) (a 3 (s 6) - 1) → (∀ i, i ≠ 3 → a' i = a i) → Q none (ch n kd pl s a' c M) 0 0) : pm_E none d pm_mm32 0 [(0, .ref (pl 9))] [] (ch n kd pl s a c M) 0 0 Q := by
  refine pm_e_sim pm_a32_0 rfl ?_
  show pm_E _ _ _ 1 [(0, .ref (pl 9))] [.ref (pl 9)] _ _ _ _
  refine pm_i_get pm_a32_1 rfl (cg_9 hW) rfl ?_
  show pm_E _ _ _ 4 [(0, .ref (pl 9))] [.int (iI (s 6))] _ _ _ _
  refine pm_i_lt (t := 32) pm_a32_4 rfl ⟨by omega, by omega⟩ (fun h_1 => ?_) (fun h_1 => ?_)
  · skip
    exfalso; omega
  · skip
    show pm_E _ _ _ 7 [(0, .ref (pl 9))] [] _ _ _ _
    refine pm_e_sim pm_a32_7 rfl ?_
    show pm_E _ _ _ 8 [(0, .ref (pl 9))] [.ref (pl 9)] _ _ _ _
    refine pm_i_get pm_a32_8 rfl (cg_9 hW) rfl ?_
    show pm_E _ _ _ 11 [(0, .ref (pl 9))] [.int (iI (s 6))] _ _ _ _
    refine pm_e_sim pm_a32_11 rfl ?_
    show pm_E _ _ _ 12 [(0, .ref (pl 9))] [.ref (pl 9), .int (iI (s 6))] _ _ _ _
    refine pm_i_get pm_a32_12 rfl (cg_9 hW) rfl ?_
    show pm_E _ _ _ 15 [(0, .ref (pl 9))] [.ref (pl 10), .int (iI (s 6))] _ _ _ _
    refine pm_i_aln pm_a32_15 (cg_10 hW) ?_
    show pm_E _ _ _ 16 [(0, .ref (pl 9))] [.int (iI 601), .int (iI (s 6))] _ _ _ _
    refine pm_c_ge (t := 32) pm_a32_16 rfl ⟨by omega, by omega⟩ ⟨by omega, by omega⟩ (fun h_2 => ?_) (fun h_2 => ?_)
    · skip
      exfalso; omega
    · skip
      show pm_E _ _ _ 19 [(0, .ref (pl 9))] [] _ _ _ _
      refine pm_e_sim pm_a32_19 rfl ?_
      show pm_E _ _ _ 20 [(0, .ref (pl 9))] [.ref (pl 9)] _ _ _ _
      refine pm_i_get pm_a32_20 rfl (cg_9 hW) rfl ?_
      show pm_E _ _ _ 23 [(0, .ref (pl 9))] [.ref (pl 10)] _ _ _ _
      refine pm_e_sim pm_a32_23 rfl ?_
      show pm_E _ _ _ 24 [(0, .ref (pl 9))] [.ref (pl 9), .ref (pl 10)] _ _ _ _
      refine pm_i_get pm_a32_24 rfl (cg_9 hW) rfl ?_
      show pm_E _ _ _ 27 [(0, .ref (pl 9))] [.int (iI (s 6)), .ref (pl 10)] _ _ _ _
      refine pm_e_sim pm_a32_27 rfl ?_
      show pm_E _ _ _ 28 [(0, .ref (pl 9))] [.int (iI (s 6)), .ref (pl 10), .int (iI (s 6)), .ref (pl 10)] _ _ _ _
      refine pm_i_ald pm_a32_28 (cg_10 hW) (by omega) (by omega) ⟨by omega, by omega⟩ ?_
      show pm_E _ _ _ 29 [(0, .ref (pl 9))] [.int (iI ((a 3) (s 6))), .int (iI (s 6)), .ref (pl 10)] _ _ _ _
      refine pm_e_sim pm_a32_29 rfl ?_
      refine pm_e_top (y := iI 1) (by decide +kernel) ?_
      show pm_E _ _ _ 30 [(0, .ref (pl 9))] [.int (iI 1), .int (iI ((a 3) (s 6))), .int (iI (s 6)), .ref (pl 10)] _ _ _ _
      refine pm_e_sim pm_a32_30 rfl ?_
      refine pm_e_top (y := iI ((a 3) (s 6) - 1)) (iI_sub _ _) ?_
      show pm_E _ _ _ 31 [(0, .ref (pl 9))] [.int (iI ((a 3) (s 6) - 1)), .int (iI (s 6)), .ref (pl 10)] _ _ _ _
      refine pm_i_ast pm_a32_31 (cg_10 hW) (by omega) (by omega) ⟨by omega, by omega⟩ (ca_10 hW _) ?_
      show pm_E _ _ _ 32 [(0, .ref (pl 9))] [] _ _ _ _
      refine pm_e_ret pm_a32_32 rfl rfl rfl rfl rfl rfl rfl rfl ?_
      exact k _ rfl (fun i n3 => by simp only [updA]; rw [if_neg n3])
set_option maxHeartbeats 4000000 in
set_option maxRecDepth 100000 in
theorem C_r_takePart {d n : Nat} {kd pl : Nat → Nat} {s : Nat → Int} {a : Nat → Int → Int} {c : Nat → cdt} {M : List va_E} {Q : Option Value → List va_E → Nat → Nat → Prop} {x : Int} (hW : wf n kd pl) (h6 : 0 ≤ s 6) (h6' : s 6 < 601) (h5 : 0 ≤ s 5) (h5' : s 5 < 601) (k : ∀ s' a', s' 5 = s 5 + 1 → (∀ i, i ≠ 5 → s' i = s i) → a' 3 = updI (updI (a 3) (s 6) (a 3 (s 6) - 1)) (s 5) x → (∀ i, i ≠ 3 → a' i = a i) → Q none (ch n kd pl s' a' c M) 0 0) : pm_E none (d + 1) pm_mm31 0 [(0, .ref (pl 9)), (1, .int (iI x))] [] (ch n kd pl s a c M) 0 0 Q := by
  refine pm_e_sim pm_a31_0 rfl ?_
  show pm_E _ _ _ 1 [(0, .ref (pl 9)), (1, .int (iI x))] [.ref (pl 9)] _ _ _ _
  refine pm_i_callv (k := (pl 9)) (T2 := pm_mm32) pm_a31_1 rfl rfl rfl (cg_9 hW) ⟨Nat.le_of_ble_eq_true rfl, Nat.le_of_ble_eq_true rfl, rfl, by decide +kernel⟩ ?_
  show pm_E none _ _ 0 [(0, .ref (pl 9))] [] _ _ _ _
  refine C_r_countPart hW (by show 0 ≤ s 6; omega) (by show s 6 < 601; omega) (fun a_1 p_1 q_1 => ?_)
  show pm_E _ _ _ 4 [(0, .ref (pl 9)), (1, .int (iI x))] [] _ _ _ _
  refine pm_e_sim pm_a31_4 rfl ?_
  show pm_E _ _ _ 5 [(0, .ref (pl 9)), (1, .int (iI x))] [.ref (pl 9)] _ _ _ _
  refine pm_e_sim pm_a31_5 rfl ?_
  show pm_E _ _ _ 6 [(0, .ref (pl 9)), (1, .int (iI x))] [.int (iI x), .ref (pl 9)] _ _ _ _
  refine pm_i_callv (k := (pl 9)) (T2 := pm_mm16) pm_a31_6 rfl rfl rfl (cg_9 hW) ⟨Nat.le_of_ble_eq_true rfl, Nat.le_of_ble_eq_true rfl, rfl, by decide +kernel⟩ ?_
  show pm_E none _ _ 0 [(0, .ref (pl 9)), (1, .int (iI x))] [] _ _ _ _
  refine C_r_putItem hW (by show 0 ≤ s 5; omega) (by show s 5 < 601; omega) (fun s_2 a_2 f_2 g_2 p_2 q_2 => ?_)
  have e0_2 : s_2 0 = s 0 := g_2 0 (by decide)
  have e1_2 : s_2 1 = s 1 := g_2 1 (by decide)
  have e2_2 : s_2 2 = s 2 := g_2 2 (by decide)
  have e3_2 : s_2 3 = s 3 := g_2 3 (by decide)
  have e4_2 : s_2 4 = s 4 := g_2 4 (by decide)
  have e6_2 : s_2 6 = s 6 := g_2 6 (by decide)
  have e7_2 : s_2 7 = s 7 := g_2 7 (by decide)
  have e8_2 : s_2 8 = s 8 := g_2 8 (by decide)
  have e9_2 : s_2 9 = s 9 := g_2 9 (by decide)
  have e10_2 : s_2 10 = s 10 := g_2 10 (by decide)
  have e11_2 : s_2 11 = s 11 := g_2 11 (by decide)
  have e12_2 : s_2 12 = s 12 := g_2 12 (by decide)
  have e13_2 : s_2 13 = s 13 := g_2 13 (by decide)
  have e5_2 : s_2 5 = s 5 + 1 := f_2
  show pm_E _ _ _ 9 [(0, .ref (pl 9)), (1, .int (iI x))] [] _ _ _ _
  refine pm_e_ret pm_a31_9 rfl rfl rfl rfl rfl rfl rfl rfl ?_
  refine k s_2 a_2 e5_2 g_2 ?_ (fun i n3 => ?_)
  · rw [p_2, p_1]
  · rw [q_2 i n3, q_1 i n3]
set_option maxHeartbeats 4000000 in
set_option maxRecDepth 100000 in
theorem C_r_openUp {d n : Nat} {kd pl : Nat → Nat} {s : Nat → Int} {a : Nat → Int → Int} {c : Nat → cdt} {M : List va_E} {Q : Option Value → List va_E → Nat → Nat → Prop} {x : Int} (hW : wf n kd pl) (h7 : 0 ≤ s 7) (h7' : s 7 ≤ 40) (kf : s 7 = 40 → ∀ s', (s' 12 = 4 ∧ s' 13 = s 10) → (∀ i, i ≠ 12 → i ≠ 13 → s' i = s i) → Q none (ch n kd pl s' a c M) 0 0) (k : s 7 < 40 → ∀ s' a', s' 7 = s 7 + 1 → (∀ i, i ≠ 7 → s' i = s i) → a' 4 = updI (a 4) (s 7) x → a' 5 = updI (a 5) (s 7) (s 6) → (∀ i, i ≠ 4 → i ≠ 5 → a' i = a i) → Q none (ch n kd pl s' a' c M) 0 0) : pm_E none (d + 1) pm_mm28 0 [(0, .ref (pl 9)), (1, .int (iI x))] [] (ch n kd pl s a c M) 0 0 Q := by
  refine pm_e_sim pm_a28_0 rfl ?_
  show pm_E _ _ _ 1 [(0, .ref (pl 9)), (1, .int (iI x))] [.ref (pl 9)] _ _ _ _
  refine pm_i_get pm_a28_1 rfl (cg_9 hW) rfl ?_
  show pm_E _ _ _ 4 [(0, .ref (pl 9)), (1, .int (iI x))] [.int (iI (s 7))] _ _ _ _
  refine pm_i_lt (t := 16) pm_a28_4 rfl ⟨by omega, by omega⟩ (fun h_1 => ?_) (fun h_1 => ?_)
  · skip
    exfalso; omega
  · skip
    show pm_E _ _ _ 7 [(0, .ref (pl 9)), (1, .int (iI x))] [] _ _ _ _
    refine pm_e_sim pm_a28_7 rfl ?_
    show pm_E _ _ _ 8 [(0, .ref (pl 9)), (1, .int (iI x))] [.ref (pl 9)] _ _ _ _
    refine pm_i_get pm_a28_8 rfl (cg_9 hW) rfl ?_
    show pm_E _ _ _ 11 [(0, .ref (pl 9)), (1, .int (iI x))] [.int (iI (s 7))] _ _ _ _
    refine pm_e_sim pm_a28_11 rfl ?_
    refine pm_e_top (y := iI 40) (by decide +kernel) ?_
    show pm_E _ _ _ 13 [(0, .ref (pl 9)), (1, .int (iI x))] [.int (iI 40), .int (iI (s 7))] _ _ _ _
    refine pm_c_lt (t := 22) pm_a28_13 rfl ⟨by omega, by omega⟩ ⟨by omega, by omega⟩ (fun h_2 => ?_) (fun h_2 => ?_)
    · skip
      show pm_E _ _ _ 22 [(0, .ref (pl 9)), (1, .int (iI x))] [] _ _ _ _
      refine pm_e_sim pm_a28_22 rfl ?_
      show pm_E _ _ _ 23 [(0, .ref (pl 9)), (1, .int (iI x))] [.ref (pl 9)] _ _ _ _
      refine pm_i_get pm_a28_23 rfl (cg_9 hW) rfl ?_
      show pm_E _ _ _ 26 [(0, .ref (pl 9)), (1, .int (iI x))] [.ref (pl 11)] _ _ _ _
      refine pm_e_sim pm_a28_26 rfl ?_
      show pm_E _ _ _ 27 [(0, .ref (pl 9)), (1, .int (iI x))] [.ref (pl 9), .ref (pl 11)] _ _ _ _
      refine pm_i_get pm_a28_27 rfl (cg_9 hW) rfl ?_
      show pm_E _ _ _ 30 [(0, .ref (pl 9)), (1, .int (iI x))] [.int (iI (s 7)), .ref (pl 11)] _ _ _ _
      refine pm_e_sim pm_a28_30 rfl ?_
      show pm_E _ _ _ 31 [(0, .ref (pl 9)), (1, .int (iI x))] [.int (iI x), .int (iI (s 7)), .ref (pl 11)] _ _ _ _
      refine pm_i_ast pm_a28_31 (cg_11 hW) (by omega) (by omega) ⟨by omega, by omega⟩ (ca_11 hW _) ?_
      show pm_E _ _ _ 32 [(0, .ref (pl 9)), (1, .int (iI x))] [] _ _ _ _
      refine pm_e_sim pm_a28_32 rfl ?_
      show pm_E _ _ _ 33 [(0, .ref (pl 9)), (1, .int (iI x))] [.ref (pl 9)] _ _ _ _
      refine pm_i_get pm_a28_33 rfl (cg_9 hW) rfl ?_
      show pm_E _ _ _ 36 [(0, .ref (pl 9)), (1, .int (iI x))] [.ref (pl 12)] _ _ _ _
      refine pm_e_sim pm_a28_36 rfl ?_
      show pm_E _ _ _ 37 [(0, .ref (pl 9)), (1, .int (iI x))] [.ref (pl 9), .ref (pl 12)] _ _ _ _
      refine pm_i_get pm_a28_37 rfl (cg_9 hW) rfl ?_
      show pm_E _ _ _ 40 [(0, .ref (pl 9)), (1, .int (iI x))] [.int (iI (s 7)), .ref (pl 12)] _ _ _ _
      refine pm_e_sim pm_a28_40 rfl ?_
      show pm_E _ _ _ 41 [(0, .ref (pl 9)), (1, .int (iI x))] [.ref (pl 9), .int (iI (s 7)), .ref (pl 12)] _ _ _ _
      refine pm_i_get pm_a28_41 rfl (cg_9 hW) rfl ?_
      show pm_E _ _ _ 44 [(0, .ref (pl 9)), (1, .int (iI x))] [.int (iI (s 6)), .int (iI (s 7)), .ref (pl 12)] _ _ _ _
      refine pm_i_ast pm_a28_44 (cg_12 hW) (by omega) (by omega) ⟨by omega, by omega⟩ (ca_12 hW _) ?_
      show pm_E _ _ _ 45 [(0, .ref (pl 9)), (1, .int (iI x))] [] _ _ _ _
      refine pm_e_sim pm_a28_45 rfl ?_
      show pm_E _ _ _ 46 [(0, .ref (pl 9)), (1, .int (iI x))] [.ref (pl 9)] _ _ _ _
      refine pm_e_sim pm_a28_46 rfl ?_
      show pm_E _ _ _ 47 [(0, .ref (pl 9)), (1, .int (iI x))] [.ref (pl 9), .ref (pl 9)] _ _ _ _
      refine pm_i_get pm_a28_47 rfl (cg_9 hW) rfl ?_
      show pm_E _ _ _ 50 [(0, .ref (pl 9)), (1, .int (iI x))] [.int (iI (s 7)), .ref (pl 9)] _ _ _ _
      refine pm_e_sim pm_a28_50 rfl ?_
      refine pm_e_top (y := iI 1) (by decide +kernel) ?_
      show pm_E _ _ _ 51 [(0, .ref (pl 9)), (1, .int (iI x))] [.int (iI 1), .int (iI (s 7)), .ref (pl 9)] _ _ _ _
      refine pm_e_sim pm_a28_51 rfl ?_
      refine pm_e_top (y := iI (s 7 + 1)) (iI_add _ _) ?_
      show pm_E _ _ _ 52 [(0, .ref (pl 9)), (1, .int (iI x))] [.int (iI (s 7 + 1)), .ref (pl 9)] _ _ _ _
      refine pm_i_put pm_a28_52 rfl (cg_9 hW) rfl (Nat.le_of_ble_eq_true rfl) (Or.inl rfl) (cw_7 hW (s 7 + 1)) ?_
      show pm_E _ _ _ 55 [(0, .ref (pl 9)), (1, .int (iI x))] [] _ _ _ _
      refine pm_e_ret pm_a28_55 rfl rfl rfl rfl rfl rfl rfl rfl ?_
      exact k (by omega) _ _ rfl (fun i n7 => by simp only [updS]; rw [if_neg n7]) rfl rfl (fun i n4 n5 => by simp only [updA]; rw [if_neg n5, if_neg n4])
    · skip
      show pm_E _ _ _ 16 [(0, .ref (pl 9)), (1, .int (iI x))] [] _ _ _ _
      refine pm_e_sim pm_a28_16 rfl ?_
      show pm_E _ _ _ 17 [(0, .ref (pl 9)), (1, .int (iI x))] [.ref (pl 9)] _ _ _ _
      refine pm_e_sim pm_a28_17 rfl ?_
      refine pm_e_top (y := iI 4) (by decide +kernel) ?_
      show pm_E _ _ _ 18 [(0, .ref (pl 9)), (1, .int (iI x))] [.int (iI 4), .ref (pl 9)] _ _ _ _
      refine pm_i_callv (k := (pl 9)) (T2 := pm_mm22) pm_a28_18 rfl rfl rfl (cg_9 hW) ⟨Nat.le_of_ble_eq_true rfl, Nat.le_of_ble_eq_true rfl, rfl, by decide +kernel⟩ ?_
      show pm_E none _ _ 0 [(0, .ref (pl 9)), (1, .int (iI 4))] [] _ _ _ _
      refine C_r_fail hW (fun s_3 f_3 g_3 => ?_)
      have e0_3 : s_3 0 = s 0 := g_3 0 (by decide) (by decide)
      have e1_3 : s_3 1 = s 1 := g_3 1 (by decide) (by decide)
      have e2_3 : s_3 2 = s 2 := g_3 2 (by decide) (by decide)
      have e3_3 : s_3 3 = s 3 := g_3 3 (by decide) (by decide)
      have e4_3 : s_3 4 = s 4 := g_3 4 (by decide) (by decide)
      have e5_3 : s_3 5 = s 5 := g_3 5 (by decide) (by decide)
      have e6_3 : s_3 6 = s 6 := g_3 6 (by decide) (by decide)
      have e7_3 : s_3 7 = s 7 := g_3 7 (by decide) (by decide)
      have e8_3 : s_3 8 = s 8 := g_3 8 (by decide) (by decide)
      have e9_3 : s_3 9 = s 9 := g_3 9 (by decide) (by decide)
      have e10_3 : s_3 10 = s 10 := g_3 10 (by decide) (by decide)
      have e11_3 : s_3 11 = s 11 := g_3 11 (by decide) (by decide)
      show pm_E _ _ _ 21 [(0, .ref (pl 9)), (1, .int (iI x))] [] _ _ _ _
      refine pm_e_ret pm_a28_21 rfl rfl rfl rfl rfl rfl rfl rfl ?_
      exact kf (by omega) s_3 f_3 g_3
set_option maxHeartbeats 4000000 in
set_option maxRecDepth 100000 in
theorem C_r_isRowEmpty {d n : Nat} {kd pl : Nat → Nat} {s : Nat → Int} {a : Nat → Int → Int} {c : Nat → cdt} {M : List va_E} {Q : Option Value → List va_E → Nat → Nat → Prop} (hW : wf n kd pl) (h6 : 0 ≤ s 6) (h6' : s 6 < 601) (hin : in32 (a 3 (s 6))) (k1 : a 3 (s 6) = 0 → Q (some (.int (iI 1))) (ch n kd pl s a c M) 0 0) (k0 : a 3 (s 6) ≠ 0 → Q (some (.int (iI 0))) (ch n kd pl s a c M) 0 0) : pm_E none d pm_mm36 0 [(0, .ref (pl 9))] [] (ch n kd pl s a c M) 0 0 Q := by
  obtain ⟨_, _⟩ := id hin
  refine pm_e_sim pm_a36_0 rfl ?_
  show pm_E _ _ _ 1 [(0, .ref (pl 9))] [.ref (pl 9)] _ _ _ _
  refine pm_i_get pm_a36_1 rfl (cg_9 hW) rfl ?_
  show pm_E _ _ _ 4 [(0, .ref (pl 9))] [.int (iI (s 6))] _ _ _ _
  refine pm_i_lt (t := 31) pm_a36_4 rfl ⟨by omega, by omega⟩ (fun h_1 => ?_) (fun h_1 => ?_)
  · skip
    exfalso; omega
  · skip
    show pm_E _ _ _ 7 [(0, .ref (pl 9))] [] _ _ _ _
    refine pm_e_sim pm_a36_7 rfl ?_
    show pm_E _ _ _ 8 [(0, .ref (pl 9))] [.ref (pl 9)] _ _ _ _
    refine pm_i_get pm_a36_8 rfl (cg_9 hW) rfl ?_
    show pm_E _ _ _ 11 [(0, .ref (pl 9))] [.int (iI (s 6))] _ _ _ _
    refine pm_e_sim pm_a36_11 rfl ?_
    show pm_E _ _ _ 12 [(0, .ref (pl 9))] [.ref (pl 9), .int (iI (s 6))] _ _ _ _
    refine pm_i_get pm_a36_12 rfl (cg_9 hW) rfl ?_
    show pm_E _ _ _ 15 [(0, .ref (pl 9))] [.ref (pl 10), .int (iI (s 6))] _ _ _ _
    refine pm_i_aln pm_a36_15 (cg_10 hW) ?_
    show pm_E _ _ _ 16 [(0, .ref (pl 9))] [.int (iI 601), .int (iI (s 6))] _ _ _ _
    refine pm_c_ge (t := 31) pm_a36_16 rfl ⟨by omega, by omega⟩ ⟨by omega, by omega⟩ (fun h_2 => ?_) (fun h_2 => ?_)
    · skip
      exfalso; omega
    · skip
      show pm_E _ _ _ 19 [(0, .ref (pl 9))] [] _ _ _ _
      refine pm_e_sim pm_a36_19 rfl ?_
      show pm_E _ _ _ 20 [(0, .ref (pl 9))] [.ref (pl 9)] _ _ _ _
      refine pm_i_get pm_a36_20 rfl (cg_9 hW) rfl ?_
      show pm_E _ _ _ 23 [(0, .ref (pl 9))] [.ref (pl 10)] _ _ _ _
      refine pm_e_sim pm_a36_23 rfl ?_
      show pm_E _ _ _ 24 [(0, .ref (pl 9))] [.ref (pl 9), .ref (pl 10)] _ _ _ _
      refine pm_i_get pm_a36_24 rfl (cg_9 hW) rfl ?_
      show pm_E _ _ _ 27 [(0, .ref (pl 9))] [.int (iI (s 6)), .ref (pl 10)] _ _ _ _
      refine pm_i_ald pm_a36_27 (cg_10 hW) (by omega) (by omega) ⟨by omega, by omega⟩ ?_
      show pm_E _ _ _ 28 [(0, .ref (pl 9))] [.int (iI ((a 3) (s 6)))] _ _ _ _
      refine pm_i_ne (t := 35) pm_a36_28 rfl ⟨by omega, by omega⟩ (fun h_3 => ?_) (fun h_3 => ?_)
      · skip
        show pm_E _ _ _ 35 [(0, .ref (pl 9))] [] _ _ _ _
        refine pm_e_sim pm_a36_35 rfl ?_
        refine pm_e_top (y := iI 0) (by decide +kernel) ?_
        show pm_E _ _ _ 36 [(0, .ref (pl 9))] [.int (iI 0)] _ _ _ _
        refine pm_e_ret pm_a36_36 rfl rfl rfl rfl rfl rfl rfl rfl ?_
        exact k0 (by omega)
      · skip
        show pm_E _ _ _ 31 [(0, .ref (pl 9))] [] _ _ _ _
        refine pm_e_sim pm_a36_31 rfl ?_
        refine pm_e_top (y := iI 1) (by decide +kernel) ?_
        show pm_E _ _ _ 32 [(0, .ref (pl 9))] [.int (iI 1)] _ _ _ _
        refine pm_e_goto pm_a36_32 rfl ?_
        show pm_E _ _ _ 36 [(0, .ref (pl 9))] [.int (iI 1)] _ _ _ _
        refine pm_e_ret pm_a36_36 rfl rfl rfl rfl rfl rfl rfl rfl ?_
        exact k1 (by omega)
set_option maxHeartbeats 4000000 in
set_option maxRecDepth 100000 in
theorem C_r_inner_l {d n : Nat} {kd pl : Nat → Nat} {s : Nat → Int} {a : Nat → Int → Int} {c : Nat → cdt} {M : List va_E} {Q : Option Value → List va_E → Nat → Nat → Prop} (hW : wf n kd pl) (h7 : 0 ≤ s 7) (h7' : s 7 ≤ 40) (hin : ∀ i, in32 (a 4 i)) (kn : (∀ i, 0 ≤ i → i < s 7 → a 4 i ≠ -1) → Q (some (.int (iI (-4)))) (ch n kd pl s a c M) 0 0) (ks : ∀ r, 0 ≤ r → r < s 7 → a 4 r = -1 → (∀ i, r < i → i < s 7 → a 4 i ≠ -1) → Q (some (.int (iI r))) (ch n kd pl s a c M) 0 0) : ∀ (f : Nat) (i : Int), -1 ≤ i → i < s 7 → (∀ j, i < j → j < s 7 → a 4 j ≠ -1) → i + 1 < (f : Int) → pm_E none d pm_mm35 7 [(0, .ref (pl 9)), (1, .int (iI i))] [] (ch n kd pl s a c M) 0 0 Q := by
  intro f
  induction f with
  | zero =>
    intro i hi0 hi1 hn hf
    exfalso; omega
  | succ f ih =>
    intro i hi0 hi1 hn hf
    obtain ⟨_, _⟩ := hin i
    refine pm_e_sim pm_a35_7 rfl ?_
    show pm_E _ _ _ 8 [(0, .ref (pl 9)), (1, .int (iI i))] [.int (iI i)] _ _ _ _
    refine pm_i_lt (t := 38) pm_a35_8 rfl ⟨by omega, by omega⟩ (fun h_1 => ?_) (fun h_1 => ?_)
    · skip
      show pm_E _ _ _ 38 [(0, .ref (pl 9)), (1, .int (iI i))] [] _ _ _ _
      refine pm_e_sim pm_a35_38 rfl ?_
      refine pm_e_top (y := iI (-4)) (by decide +kernel) ?_
      show pm_E _ _ _ 40 [(0, .ref (pl 9)), (1, .int (iI i))] [.int (iI (-4))] _ _ _ _
      refine pm_e_ret pm_a35_40 rfl rfl rfl rfl rfl rfl rfl rfl ?_
      exact kn (fun j z y => hn j (by omega) y)
    · skip
      show pm_E _ _ _ 11 [(0, .ref (pl 9)), (1, .int (iI i))] [] _ _ _ _
      refine pm_e_sim pm_a35_11 rfl ?_
      show pm_E _ _ _ 12 [(0, .ref (pl 9)), (1, .int (iI i))] [.int (iI i)] _ _ _ _
      refine pm_e_sim pm_a35_12 rfl ?_
      show pm_E _ _ _ 13 [(0, .ref (pl 9)), (1, .int (iI i))] [.ref (pl 9), .int (iI i)] _ _ _ _
      refine pm_i_get pm_a35_13 rfl (cg_9 hW) rfl ?_
      show pm_E _ _ _ 16 [(0, .ref (pl 9)), (1, .int (iI i))] [.ref (pl 11), .int (iI i)] _ _ _ _
      refine pm_i_aln pm_a35_16 (cg_11 hW) ?_
      show pm_E _ _ _ 17 [(0, .ref (pl 9)), (1, .int (iI i))] [.int (iI 40), .int (iI i)] _ _ _ _
      refine pm_c_ge (t := 32) pm_a35_17 rfl ⟨by omega, by omega⟩ ⟨by omega, by omega⟩ (fun h_2 => ?_) (fun h_2 => ?_)
      · skip
        exfalso; omega
      · skip
        show pm_E _ _ _ 20 [(0, .ref (pl 9)), (1, .int (iI i))] [] _ _ _ _
        refine pm_e_sim pm_a35_20 rfl ?_
        show pm_E _ _ _ 21 [(0, .ref (pl 9)), (1, .int (iI i))] [.ref (pl 9)] _ _ _ _
        refine pm_i_get pm_a35_21 rfl (cg_9 hW) rfl ?_
        show pm_E _ _ _ 24 [(0, .ref (pl 9)), (1, .int (iI i))] [.ref (pl 11)] _ _ _ _
        refine pm_e_sim pm_a35_24 rfl ?_
        show pm_E _ _ _ 25 [(0, .ref (pl 9)), (1, .int (iI i))] [.int (iI i), .ref (pl 11)] _ _ _ _
        refine pm_i_ald pm_a35_25 (cg_11 hW) (by omega) (by omega) ⟨by omega, by omega⟩ ?_
        show pm_E _ _ _ 26 [(0, .ref (pl 9)), (1, .int (iI i))] [.int (iI ((a 4) (i)))] _ _ _ _
        refine pm_e_sim pm_a35_26 rfl ?_
        refine pm_e_top (y := iI (-1)) (by decide +kernel) ?_
        show pm_E _ _ _ 27 [(0, .ref (pl 9)), (1, .int (iI i))] [.int (iI (-1)), .int (iI ((a 4) (i)))] _ _ _ _
        refine pm_c_ne (t := 32) pm_a35_27 rfl ⟨by omega, by omega⟩ ⟨by omega, by omega⟩ (fun h_3 => ?_) (fun h_3 => ?_)
        · skip
          show pm_E _ _ _ 32 [(0, .ref (pl 9)), (1, .int (iI i))] [] _ _ _ _
          refine pm_e_inc (y := iI (i + (-1))) pm_a35_32 rfl (iI_add _ _) (by decide +kernel) rfl ?_
          show pm_E _ _ _ 35 [(0, .ref (pl 9)), (1, .int (iI (i + (-1))))] [] _ _ _ _
          refine pm_e_goto pm_a35_35 rfl ?_
          show pm_E _ _ _ 7 [(0, .ref (pl 9)), (1, .int (iI (i + (-1))))] [] _ _ _ _
          refine ih (i + -1) (by omega) (by omega) (fun j z y => ?_) (by omega)
          by_cases e : j = i
          · rw [e]; omega
          · exact hn j (by omega) y
        · skip
          show pm_E _ _ _ 30 [(0, .ref (pl 9)), (1, .int (iI i))] [] _ _ _ _
          refine pm_e_sim pm_a35_30 rfl ?_
          show pm_E _ _ _ 31 [(0, .ref (pl 9)), (1, .int (iI i))] [.int (iI i)] _ _ _ _
          refine pm_e_ret pm_a35_31 rfl rfl rfl rfl rfl rfl rfl rfl ?_
          exact ks i (by omega) (by omega) (by omega) hn
set_option maxHeartbeats 4000000 in
set_option maxRecDepth 100000 in
theorem C_r_inner {d n : Nat} {kd pl : Nat → Nat} {s : Nat → Int} {a : Nat → Int → Int} {c : Nat → cdt} {M : List va_E} {Q : Option Value → List va_E → Nat → Nat → Prop} (hW : wf n kd pl) (h7 : 0 ≤ s 7) (h7' : s 7 ≤ 40) (hin : ∀ i, in32 (a 4 i)) (kn : (∀ i, 0 ≤ i → i < s 7 → a 4 i ≠ -1) → Q (some (.int (iI (-4)))) (ch n kd pl s a c M) 0 0) (ks : ∀ r, 0 ≤ r → r < s 7 → a 4 r = -1 → (∀ i, r < i → i < s 7 → a 4 i ≠ -1) → Q (some (.int (iI r))) (ch n kd pl s a c M) 0 0) : pm_E none d pm_mm35 0 [(0, .ref (pl 9))] [] (ch n kd pl s a c M) 0 0 Q := by
  refine pm_e_sim pm_a35_0 rfl ?_
  show pm_E _ _ _ 1 [(0, .ref (pl 9))] [.ref (pl 9)] _ _ _ _
  refine pm_i_get pm_a35_1 rfl (cg_9 hW) rfl ?_
  show pm_E _ _ _ 4 [(0, .ref (pl 9))] [.int (iI (s 7))] _ _ _ _
  refine pm_e_sim pm_a35_4 rfl ?_
  refine pm_e_top (y := iI 1) (by decide +kernel) ?_
  show pm_E _ _ _ 5 [(0, .ref (pl 9))] [.int (iI 1), .int (iI (s 7))] _ _ _ _
  refine pm_e_sim pm_a35_5 rfl ?_
  refine pm_e_top (y := iI (s 7 - 1)) (iI_sub _ _) ?_
  show pm_E _ _ _ 6 [(0, .ref (pl 9))] [.int (iI (s 7 - 1))] _ _ _ _
  refine pm_e_sim pm_a35_6 rfl ?_
  show pm_E _ _ _ 7 [(0, .ref (pl 9)), (1, .int (iI (s 7 - 1)))] [] _ _ _ _
  exact C_r_inner_l hW h7 h7' hin kn ks 42 (s 7 - 1) (by omega) (by omega) (fun j z y => by exfalso; omega) (by omega)
