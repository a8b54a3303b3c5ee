/-! THE CLASS: Reader: signs, heads, ends -/
set_option maxHeartbeats 4000000 in
set_option maxRecDepth 100000 in
theorem C_r_close {d n : Nat} {kd pl : Nat → Nat} {s : Nat → Int} {a : Nat → Int → Int} {c : Nat → cdt} {M : List va_E} {Q : Option Value → List va_E → Nat → Nat → Prop} {S : PS} {ps : List Int} {i : Int} (hW : wf n kd pl) (h4 : 0 ≤ s 4) (h4' : s 4 ≤ 600) (hb : ∀ j, 0 ≤ a 0 j ∧ a 0 j ≤ 255) (hin : ∀ i j, in32 (a i j)) (hCR : CR (a 0) (s 4) S ps i s a) (h12 : s 12 = 0) (hi : i < s 11) (hi0 : 0 ≤ i) (hs4 : s 11 ≤ s 4) (h8 : S.2.2.1 = 0) (k : ∀ s' a', TKP 2 (pClose S.1 S.2.1) (a 0) (s 4) (s 11) s a s' a' → Q none (ch n kd pl s' a' c M) 0 0) : pm_E none (d + 1) pm_mm34 0 [(0, .ref (pl 9))] [] (ch n kd pl s a c M) 0 0 Q := by
  obtain ⟨y9, r9, hL9, he9, r69, r39, rv9, z1, z2, z3⟩ := CR_row hCR
  obtain ⟨_, _⟩ := hin 3 (s 6)
  have h70 : 0 ≤ s 7 ∧ s 7 ≤ 40 := ⟨by rw [hCR.2.2.1.1]; omega, hCR.2.2.2.2.2.2.2.2.2.2⟩
  obtain ⟨h7, h7'⟩ := h70
  refine pm_e_sim pm_a34_0 rfl ?_
  show pm_E _ _ _ 1 [(0, .ref (pl 9))] [.ref (pl 9)] _ _ _ _
  refine pm_i_callv (k := (pl 9)) (T2 := pm_mm35) pm_a34_1 rfl rfl rfl (cg_9 hW) ⟨Nat.le_of_ble_eq_true rfl, Nat.le_of_ble_eq_true rfl, rfl, by decide +kernel⟩ ?_
  show pm_E none _ _ 0 [(0, .ref (pl 9))] [] _ _ _ _
  refine C_r_inner hW (by omega) (by omega) (hin 4) (fun hn => ?_) (fun r r0 r1 r2 r3 => ?_)
  · skip
    show pm_E _ _ _ 4 [(0, .ref (pl 9))] [.int (iI (-4))] _ _ _ _
    refine pm_e_sim pm_a34_4 rfl ?_
    show pm_E _ _ _ 5 [(0, .ref (pl 9)), (1, .int (iI (-4)))] [] _ _ _ _
    refine pm_e_sim pm_a34_5 rfl ?_
    show pm_E _ _ _ 6 [(0, .ref (pl 9)), (1, .int (iI (-4)))] [.ref (pl 9)] _ _ _ _
    refine pm_i_callv (k := (pl 9)) (T2 := pm_mm36) pm_a34_6 rfl rfl rfl (cg_9 hW) ⟨Nat.le_of_ble_eq_true rfl, Nat.le_of_ble_eq_true rfl, rfl, by decide +kernel⟩ ?_
    show pm_E none _ _ 0 [(0, .ref (pl 9))] [] _ _ _ _
    refine C_r_isRowEmpty hW (by omega) (by omega) (hin 3 _) (fun y0 => ?_) (fun y0 => ?_)
    · skip
      show pm_E _ _ _ 9 [(0, .ref (pl 9)), (1, .int (iI (-4)))] [.int (iI 1)] _ _ _ _
      refine pm_e_ift pm_a34_9 rfl (by decide +kernel) ?_
      show pm_E _ _ _ 25 [(0, .ref (pl 9)), (1, .int (iI (-4)))] [] _ _ _ _
      refine pm_e_sim pm_a34_25 rfl ?_
      show pm_E _ _ _ 26 [(0, .ref (pl 9)), (1, .int (iI (-4)))] [.ref (pl 9)] _ _ _ _
      refine pm_e_sim pm_a34_26 rfl ?_
      refine pm_e_top (y := iI 2) (by decide +kernel) ?_
      show pm_E _ _ _ 27 [(0, .ref (pl 9)), (1, .int (iI (-4)))] [.int (iI 2), .ref (pl 9)] _ _ _ _
      refine pm_i_callv (k := (pl 9)) (T2 := pm_mm22) pm_a34_27 rfl rfl rfl (cg_9 hW) ⟨Nat.le_of_ble_eq_true rfl, Nat.le_of_ble_eq_true rfl, rfl, by decide +kernel⟩ ?_
      show pm_E none _ _ 0 [(0, .ref (pl 9)), (1, .int (iI 2))] [] _ _ _ _
      refine C_r_fail hW (fun s_1 f_1 g_1 => ?_)
      show pm_E _ _ _ 30 [(0, .ref (pl 9)), (1, .int (iI (-4)))] [] _ _ _ _
      refine pm_e_ret pm_a34_30 rfl rfl rfl rfl rfl rfl rfl rfl ?_
      exact k s_1 a ⟨⟨fun j _ _ _ _ n12 n13 => g_1 j n12 n13, fun _ _ _ _ => rfl⟩, Or.inl ⟨by omega, by omega, (CR_close (s' := s) hCR h8 hi).1 y0, f_1.1, f_1.2⟩⟩
    · skip
      show pm_E _ _ _ 9 [(0, .ref (pl 9)), (1, .int (iI (-4)))] [.int (iI 0)] _ _ _ _
      refine pm_e_iff pm_a34_9 rfl (by decide +kernel) ?_
      show pm_E _ _ _ 12 [(0, .ref (pl 9)), (1, .int (iI (-4)))] [] _ _ _ _
      refine pm_e_sim pm_a34_12 rfl ?_
      show pm_E _ _ _ 13 [(0, .ref (pl 9)), (1, .int (iI (-4)))] [.int (iI (-4))] _ _ _ _
      refine pm_e_ift pm_a34_13 rfl (by decide +kernel) ?_
      show pm_E _ _ _ 25 [(0, .ref (pl 9)), (1, .int (iI (-4)))] [] _ _ _ _
      refine pm_e_sim pm_a34_25 rfl ?_
      show pm_E _ _ _ 26 [(0, .ref (pl 9)), (1, .int (iI (-4)))] [.ref (pl 9)] _ _ _ _
      refine pm_e_sim pm_a34_26 rfl ?_
      refine pm_e_top (y := iI 2) (by decide +kernel) ?_
      show pm_E _ _ _ 27 [(0, .ref (pl 9)), (1, .int (iI (-4)))] [.int (iI 2), .ref (pl 9)] _ _ _ _
      refine pm_i_callv (k := (pl 9)) (T2 := pm_mm22) pm_a34_27 rfl rfl rfl (cg_9 hW) ⟨Nat.le_of_ble_eq_true rfl, Nat.le_of_ble_eq_true rfl, rfl, by decide +kernel⟩ ?_
      show pm_E none _ _ 0 [(0, .ref (pl 9)), (1, .int (iI 2))] [] _ _ _ _
      refine C_r_fail hW (fun s_2 f_2 g_2 => ?_)
      show pm_E _ _ _ 30 [(0, .ref (pl 9)), (1, .int (iI (-4)))] [] _ _ _ _
      refine pm_e_ret pm_a34_30 rfl rfl rfl rfl rfl rfl rfl rfl ?_
      exact k s_2 a ⟨⟨fun j _ _ _ _ n12 n13 => g_2 j n12 n13, fun _ _ _ _ => rfl⟩, Or.inl ⟨by omega, by omega, (CR_close (s' := s) hCR h8 hi).2.1 hn, f_2.1, f_2.2⟩⟩
  · skip
    show pm_E _ _ _ 4 [(0, .ref (pl 9))] [.int (iI r)] _ _ _ _
    refine pm_e_sim pm_a34_4 rfl ?_
    show pm_E _ _ _ 5 [(0, .ref (pl 9)), (1, .int (iI r))] [] _ _ _ _
    refine pm_e_sim pm_a34_5 rfl ?_
    show pm_E _ _ _ 6 [(0, .ref (pl 9)), (1, .int (iI r))] [.ref (pl 9)] _ _ _ _
    refine pm_i_callv (k := (pl 9)) (T2 := pm_mm36) pm_a34_6 rfl rfl rfl (cg_9 hW) ⟨Nat.le_of_ble_eq_true rfl, Nat.le_of_ble_eq_true rfl, rfl, by decide +kernel⟩ ?_
    show pm_E none _ _ 0 [(0, .ref (pl 9))] [] _ _ _ _
    refine C_r_isRowEmpty hW (by omega) (by omega) (hin 3 _) (fun y0 => ?_) (fun y0 => ?_)
    · skip
      show pm_E _ _ _ 9 [(0, .ref (pl 9)), (1, .int (iI r))] [.int (iI 1)] _ _ _ _
      refine pm_e_ift pm_a34_9 rfl (by decide +kernel) ?_
      show pm_E _ _ _ 25 [(0, .ref (pl 9)), (1, .int (iI r))] [] _ _ _ _
      refine pm_e_sim pm_a34_25 rfl ?_
      show pm_E _ _ _ 26 [(0, .ref (pl 9)), (1, .int (iI r))] [.ref (pl 9)] _ _ _ _
      refine pm_e_sim pm_a34_26 rfl ?_
      refine pm_e_top (y := iI 2) (by decide +kernel) ?_
      show pm_E _ _ _ 27 [(0, .ref (pl 9)), (1, .int (iI r))] [.int (iI 2), .ref (pl 9)] _ _ _ _
      refine pm_i_callv (k := (pl 9)) (T2 := pm_mm22) pm_a34_27 rfl rfl rfl (cg_9 hW) ⟨Nat.le_of_ble_eq_true rfl, Nat.le_of_ble_eq_true rfl, rfl, by decide +kernel⟩ ?_
      show pm_E none _ _ 0 [(0, .ref (pl 9)), (1, .int (iI 2))] [] _ _ _ _
      refine C_r_fail hW (fun s_3 f_3 g_3 => ?_)
      show pm_E _ _ _ 30 [(0, .ref (pl 9)), (1, .int (iI r))] [] _ _ _ _
      refine pm_e_ret pm_a34_30 rfl rfl rfl rfl rfl rfl rfl rfl ?_
      exact k s_3 a ⟨⟨fun j _ _ _ _ n12 n13 => g_3 j n12 n13, fun _ _ _ _ => rfl⟩, Or.inl ⟨by omega, by omega, (CR_close (s' := s) hCR h8 hi).1 y0, f_3.1, f_3.2⟩⟩
    · skip
      show pm_E _ _ _ 9 [(0, .ref (pl 9)), (1, .int (iI r))] [.int (iI 0)] _ _ _ _
      refine pm_e_iff pm_a34_9 rfl (by decide +kernel) ?_
      show pm_E _ _ _ 12 [(0, .ref (pl 9)), (1, .int (iI r))] [] _ _ _ _
      refine pm_e_sim pm_a34_12 rfl ?_
      show pm_E _ _ _ 13 [(0, .ref (pl 9)), (1, .int (iI r))] [.int (iI r)] _ _ _ _
      refine pm_i_lt (t := 25) pm_a34_13 rfl ⟨by omega, by omega⟩ (fun h_4 => ?_) (fun h_4 => ?_)
      · skip
        exfalso; omega
      · skip
        show pm_E _ _ _ 16 [(0, .ref (pl 9)), (1, .int (iI r))] [] _ _ _ _
        refine pm_e_sim pm_a34_16 rfl ?_
        show pm_E _ _ _ 17 [(0, .ref (pl 9)), (1, .int (iI r))] [.int (iI r)] _ _ _ _
        refine pm_e_sim pm_a34_17 rfl ?_
        show pm_E _ _ _ 18 [(0, .ref (pl 9)), (1, .int (iI r))] [.ref (pl 9), .int (iI r)] _ _ _ _
        refine pm_i_get pm_a34_18 rfl (cg_9 hW) rfl ?_
        show pm_E _ _ _ 21 [(0, .ref (pl 9)), (1, .int (iI r))] [.ref (pl 12), .int (iI r)] _ _ _ _
        refine pm_i_aln pm_a34_21 (cg_12 hW) ?_
        show pm_E _ _ _ 22 [(0, .ref (pl 9)), (1, .int (iI r))] [.int (iI 40), .int (iI r)] _ _ _ _
        refine pm_c_lt (t := 31) pm_a34_22 rfl ⟨by omega, by omega⟩ ⟨by omega, by omega⟩ (fun h_5 => ?_) (fun h_5 => ?_)
        · skip
          show pm_E _ _ _ 31 [(0, .ref (pl 9)), (1, .int (iI r))] [] _ _ _ _
          refine pm_e_sim pm_a34_31 rfl ?_
          show pm_E _ _ _ 32 [(0, .ref (pl 9)), (1, .int (iI r))] [.ref (pl 9)] _ _ _ _
          refine pm_e_sim pm_a34_32 rfl ?_
          show pm_E _ _ _ 33 [(0, .ref (pl 9)), (1, .int (iI r))] [.int (iI r), .ref (pl 9)] _ _ _ _
          refine pm_i_put pm_a34_33 rfl (cg_9 hW) rfl (Nat.le_of_ble_eq_true rfl) (Or.inl rfl) (cw_7 hW r) ?_
          show pm_E _ _ _ 36 [(0, .ref (pl 9)), (1, .int (iI r))] [] _ _ _ _
          refine pm_e_sim pm_a34_36 rfl ?_
          show pm_E _ _ _ 37 [(0, .ref (pl 9)), (1, .int (iI r))] [.ref (pl 9)] _ _ _ _
          refine pm_e_sim pm_a34_37 rfl ?_
          show pm_E _ _ _ 38 [(0, .ref (pl 9)), (1, .int (iI r))] [.ref (pl 9), .ref (pl 9)] _ _ _ _
          refine pm_i_get pm_a34_38 rfl (cg_9 hW) rfl ?_
          show pm_E _ _ _ 41 [(0, .ref (pl 9)), (1, .int (iI r))] [.ref (pl 12), .ref (pl 9)] _ _ _ _
          refine pm_e_sim pm_a34_41 rfl ?_
          show pm_E _ _ _ 42 [(0, .ref (pl 9)), (1, .int (iI r))] [.int (iI r), .ref (pl 12), .ref (pl 9)] _ _ _ _
          refine pm_i_ald pm_a34_42 (cg_12 hW) (by omega) (by omega) ⟨by omega, by omega⟩ ?_
          show pm_E _ _ _ 43 [(0, .ref (pl 9)), (1, .int (iI r))] [.int (iI ((a 5) (r))), .ref (pl 9)] _ _ _ _
          refine pm_i_put pm_a34_43 rfl (cg_9 hW) rfl (Nat.le_of_ble_eq_true rfl) (Or.inl rfl) (cw_6 hW ((a 5) (r))) ?_
          show pm_E _ _ _ 46 [(0, .ref (pl 9)), (1, .int (iI r))] [] _ _ _ _
          refine pm_e_ret pm_a34_46 rfl rfl rfl rfl rfl rfl rfl rfl ?_
          obtain ⟨S', ps', x1, x2⟩ := (CR_close (s' := updS (updS s 7 r) 6 (a 5 r)) hCR h8 hi).2.2 r y0 r0 r1 r2 r3 (fun j n6 n7 => by simp only [updS]; rw [if_neg n6, if_neg n7]) rfl rfl
          exact k _ a ⟨⟨fun j _ n6 n7 _ _ _ => by simp only [updS]; rw [if_neg n6, if_neg n7], fun _ _ _ _ => rfl⟩, Or.inr ⟨⟨h12, rfl⟩, hin, S', ps', x1, x2⟩⟩
        · skip
          exfalso; omega
set_option maxHeartbeats 4000000 in
set_option maxRecDepth 100000 in
theorem C_r_takeEnd {d n : Nat} {kd pl : Nat → Nat} {s : Nat → Int} {a : Nat → Int → Int} {c : Nat → cdt} {M : List va_E} {Q : Option Value → List va_E → Nat → Nat → Prop} {S : PS} {ps : List Int} {i : Int} (hW : wf n kd pl) (h4 : 0 ≤ s 4) (h4' : s 4 ≤ 600) (hb : ∀ j, 0 ≤ a 0 j ∧ a 0 j ≤ 255) (hin : ∀ i j, in32 (a i j)) (hCR : CR (a 0) (s 4) S ps i s a) (h12 : s 12 = 0) (hi0 : 0 ≤ i) (hie : i ≤ 600) (h8 : S.2.2.1 = 0) (k : ∀ s', rdF s a s' a → ((1 ≤ s' 12 ∧ s' 12 ≤ 5 ∧ pEnd S = none ∧ s' 12 = 2 ∧ s' 13 = s 10) ∨ (s' = s ∧ pEnd S = some (itm S.1))) → Q none (ch n kd pl s' a c M) 0 0) : pm_E none (d + 1) pm_mm37 0 [(0, .ref (pl 9))] [] (ch n kd pl s a c M) 0 0 Q := by
  obtain ⟨y9, r9, hL9, he9, r69, r39, rv9, z1, z2, z3⟩ := CR_row hCR
  have h70 : 0 ≤ s 7 ∧ s 7 ≤ 40 := ⟨by rw [hCR.2.2.1.1]; omega, hCR.2.2.2.2.2.2.2.2.2.2⟩
  obtain ⟨h7, h7'⟩ := h70
  refine pm_e_sim pm_a37_0 rfl ?_
  show pm_E _ _ _ 1 [(0, .ref (pl 9))] [.ref (pl 9)] _ _ _ _
  refine pm_i_callv (k := (pl 9)) (T2 := pm_mm36) pm_a37_1 rfl rfl rfl (cg_9 hW) ⟨Nat.le_of_ble_eq_true rfl, Nat.le_of_ble_eq_true rfl, rfl, by decide +kernel⟩ ?_
  show pm_E none _ _ 0 [(0, .ref (pl 9))] [] _ _ _ _
  refine C_r_isRowEmpty hW (by omega) (by omega) (hin 3 _) (fun y0 => ?_) (fun y0 => ?_)
  · skip
    show pm_E _ _ _ 4 [(0, .ref (pl 9))] [.int (iI 1)] _ _ _ _
    refine pm_e_ift pm_a37_4 rfl (by decide +kernel) ?_
    show pm_E _ _ _ 14 [(0, .ref (pl 9))] [] _ _ _ _
    refine pm_e_sim pm_a37_14 rfl ?_
    show pm_E _ _ _ 15 [(0, .ref (pl 9))] [.ref (pl 9)] _ _ _ _
    refine pm_e_sim pm_a37_15 rfl ?_
    refine pm_e_top (y := iI 2) (by decide +kernel) ?_
    show pm_E _ _ _ 16 [(0, .ref (pl 9))] [.int (iI 2), .ref (pl 9)] _ _ _ _
    refine pm_i_callv (k := (pl 9)) (T2 := pm_mm22) pm_a37_16 rfl rfl rfl (cg_9 hW) ⟨Nat.le_of_ble_eq_true rfl, Nat.le_of_ble_eq_true rfl, rfl, by decide +kernel⟩ ?_
    show pm_E none _ _ 0 [(0, .ref (pl 9)), (1, .int (iI 2))] [] _ _ _ _
    refine C_r_fail hW (fun s_1 f_1 g_1 => ?_)
    show pm_E _ _ _ 19 [(0, .ref (pl 9))] [] _ _ _ _
    refine pm_e_ret pm_a37_19 rfl rfl rfl rfl rfl rfl rfl rfl ?_
    exact k s_1 ⟨fun j _ _ _ _ n12 n13 => g_1 j n12 n13, fun _ _ _ _ => rfl⟩ (Or.inl ⟨by omega, by omega, (CR_end hCR h8).1 y0, f_1.1, f_1.2⟩)
  · skip
    show pm_E _ _ _ 4 [(0, .ref (pl 9))] [.int (iI 0)] _ _ _ _
    refine pm_e_iff pm_a37_4 rfl (by decide +kernel) ?_
    show pm_E _ _ _ 7 [(0, .ref (pl 9))] [] _ _ _ _
    refine pm_e_sim pm_a37_7 rfl ?_
    show pm_E _ _ _ 8 [(0, .ref (pl 9))] [.ref (pl 9)] _ _ _ _
    refine pm_i_callv (k := (pl 9)) (T2 := pm_mm35) pm_a37_8 rfl rfl rfl (cg_9 hW) ⟨Nat.le_of_ble_eq_true rfl, Nat.le_of_ble_eq_true rfl, rfl, by decide +kernel⟩ ?_
    show pm_E none _ _ 0 [(0, .ref (pl 9))] [] _ _ _ _
    refine C_r_inner hW (by omega) (by omega) (hin 4) (fun hn => ?_) (fun r r0 r1 r2 r3 => ?_)
    · skip
      show pm_E _ _ _ 11 [(0, .ref (pl 9))] [.int (iI (-4))] _ _ _ _
      refine pm_e_ift pm_a37_11 rfl (by decide +kernel) ?_
      show pm_E _ _ _ 19 [(0, .ref (pl 9))] [] _ _ _ _
      refine pm_e_ret pm_a37_19 rfl rfl rfl rfl rfl rfl rfl rfl ?_
      exact k s ⟨fun _ _ _ _ _ _ _ => rfl, fun _ _ _ _ => rfl⟩ (Or.inr ⟨rfl, (CR_end hCR h8).2.2 y0 hn⟩)
    · skip
      show pm_E _ _ _ 11 [(0, .ref (pl 9))] [.int (iI r)] _ _ _ _
      refine pm_i_lt (t := 19) pm_a37_11 rfl ⟨by omega, by omega⟩ (fun h_2 => ?_) (fun h_2 => ?_)
      · skip
        exfalso; omega
      · skip
        show pm_E _ _ _ 14 [(0, .ref (pl 9))] [] _ _ _ _
        refine pm_e_sim pm_a37_14 rfl ?_
        show pm_E _ _ _ 15 [(0, .ref (pl 9))] [.ref (pl 9)] _ _ _ _
        refine pm_e_sim pm_a37_15 rfl ?_
        refine pm_e_top (y := iI 2) (by decide +kernel) ?_
        show pm_E _ _ _ 16 [(0, .ref (pl 9))] [.int (iI 2), .ref (pl 9)] _ _ _ _
        refine pm_i_callv (k := (pl 9)) (T2 := pm_mm22) pm_a37_16 rfl rfl rfl (cg_9 hW) ⟨Nat.le_of_ble_eq_true rfl, Nat.le_of_ble_eq_true rfl, rfl, by decide +kernel⟩ ?_
        show pm_E none _ _ 0 [(0, .ref (pl 9)), (1, .int (iI 2))] [] _ _ _ _
        refine C_r_fail hW (fun s_3 f_3 g_3 => ?_)
        show pm_E _ _ _ 19 [(0, .ref (pl 9))] [] _ _ _ _
        refine pm_e_ret pm_a37_19 rfl rfl rfl rfl rfl rfl rfl rfl ?_
        exact k s_3 ⟨fun j _ _ _ _ n12 n13 => g_3 j n12 n13, fun _ _ _ _ => rfl⟩ (Or.inl ⟨by omega, by omega, (CR_end hCR h8).2.1 r r0 r1 r2, f_3.1, f_3.2⟩)
set_option maxHeartbeats 4000000 in
set_option maxRecDepth 100000 in
theorem C_r_takeSign {d n : Nat} {kd pl : Nat → Nat} {s : Nat → Int} {a : Nat → Int → Int} {c : Nat → cdt} {M : List va_E} {Q : Option Value → List va_E → Nat → Nat → Prop} {S : PS} {ps : List Int} {i : Int} {x : Int} (hW : wf n kd pl) (h4 : 0 ≤ s 4) (h4' : s 4 ≤ 600) (hb : ∀ j, 0 ≤ a 0 j ∧ a 0 j ≤ 255) (hin : ∀ i j, in32 (a i j)) (hCR : CR (a 0) (s 4) S ps i s a) (h12 : s 12 = 0) (hi : i < s 11) (hi0 : 0 ≤ i) (hs4 : s 11 ≤ s 4) (h8 : S.2.2.1 = 0) (hx : in32 x) (k : ∀ s' a', TKP (pft S 4 x) (pst S 4 x) (a 0) (s 4) (s 11) s a s' a' → Q none (ch n kd pl s' a' c M) 0 0) : pm_E none (d + 2) pm_mm33 0 [(0, .ref (pl 9)), (1, .int (iI x))] [] (ch n kd pl s a c M) 0 0 Q := by
  obtain ⟨y9, r9, hL9, he9, r69, r39, rv9, z1, z2, z3⟩ := CR_row hCR
  obtain ⟨_, _⟩ := hin 3 (s 6)
  have h70 : 0 ≤ s 7 ∧ s 7 ≤ 40 := ⟨by rw [hCR.2.2.1.1]; omega, hCR.2.2.2.2.2.2.2.2.2.2⟩
  obtain ⟨h7, h7'⟩ := h70
  obtain ⟨_, _⟩ := id hx
  refine pm_e_sim pm_a33_0 rfl ?_
  show pm_E _ _ _ 1 [(0, .ref (pl 9)), (1, .int (iI x))] [.int (iI x)] _ _ _ _
  refine pm_e_sim pm_a33_1 rfl ?_
  refine pm_e_top (y := iI 40) (by decide +kernel) ?_
  show pm_E _ _ _ 3 [(0, .ref (pl 9)), (1, .int (iI x))] [.int (iI 40), .int (iI x)] _ _ _ _
  refine pm_c_ne (t := 22) pm_a33_3 rfl ⟨by omega, by omega⟩ ⟨by omega, by omega⟩ (fun h_1 => ?_) (fun h_1 => ?_)
  · skip
    show pm_E _ _ _ 22 [(0, .ref (pl 9)), (1, .int (iI x))] [] _ _ _ _
    refine pm_e_sim pm_a33_22 rfl ?_
    show pm_E _ _ _ 23 [(0, .ref (pl 9)), (1, .int (iI x))] [.int (iI x)] _ _ _ _
    refine pm_e_sim pm_a33_23 rfl ?_
    refine pm_e_top (y := iI 92) (by decide +kernel) ?_
    show pm_E _ _ _ 25 [(0, .ref (pl 9)), (1, .int (iI x))] [.int (iI 92), .int (iI x)] _ _ _ _
    refine pm_c_ne (t := 40) pm_a33_25 rfl ⟨by omega, by omega⟩ ⟨by omega, by omega⟩ (fun h_2 => ?_) (fun h_2 => ?_)
    · skip
      show pm_E _ _ _ 40 [(0, .ref (pl 9)), (1, .int (iI x))] [] _ _ _ _
      refine pm_e_sim pm_a33_40 rfl ?_
      show pm_E _ _ _ 41 [(0, .ref (pl 9)), (1, .int (iI x))] [.int (iI x)] _ _ _ _
      refine pm_e_sim pm_a33_41 rfl ?_
      refine pm_e_top (y := iI 41) (by decide +kernel) ?_
      show pm_E _ _ _ 43 [(0, .ref (pl 9)), (1, .int (iI x))] [.int (iI 41), .int (iI x)] _ _ _ _
      refine pm_c_ne (t := 53) pm_a33_43 rfl ⟨by omega, by omega⟩ ⟨by omega, by omega⟩ (fun h_3 => ?_) (fun h_3 => ?_)
      · skip
        show pm_E _ _ _ 53 [(0, .ref (pl 9)), (1, .int (iI x))] [] _ _ _ _
        refine pm_e_sim pm_a33_53 rfl ?_
        show pm_E _ _ _ 54 [(0, .ref (pl 9)), (1, .int (iI x))] [.ref (pl 9)] _ _ _ _
        refine pm_e_sim pm_a33_54 rfl ?_
        refine pm_e_top (y := iI 2) (by decide +kernel) ?_
        show pm_E _ _ _ 55 [(0, .ref (pl 9)), (1, .int (iI x))] [.int (iI 2), .ref (pl 9)] _ _ _ _
        refine pm_i_callv (k := (pl 9)) (T2 := pm_mm22) pm_a33_55 rfl rfl rfl (cg_9 hW) ⟨Nat.le_of_ble_eq_true rfl, Nat.le_of_ble_eq_true rfl, rfl, by decide +kernel⟩ ?_
        show pm_E none _ _ 0 [(0, .ref (pl 9)), (1, .int (iI 2))] [] _ _ _ _
        refine C_r_fail hW (fun s_4 f_4 g_4 => ?_)
        show pm_E _ _ _ 58 [(0, .ref (pl 9)), (1, .int (iI x))] [] _ _ _ _
        refine pm_e_ret pm_a33_58 rfl rfl rfl rfl rfl rfl rfl rfl ?_
        have e9 : pst S 4 x = none := by unfold pst; rw [if_pos h8, if_neg (by decide), if_neg (by decide), if_neg (by decide), if_neg (by omega), if_neg (by omega), if_neg (by omega)]
        exact k s_4 a ⟨⟨fun j _ _ _ _ n12 n13 => g_4 j n12 n13, fun _ _ _ _ => rfl⟩, Or.inl ⟨by omega, by omega, e9, by rw [f_4.1, pft_o h8 (by decide) (by omega)], f_4.2⟩⟩
      · skip
        show pm_E _ _ _ 46 [(0, .ref (pl 9)), (1, .int (iI x))] [] _ _ _ _
        refine pm_e_sim pm_a33_46 rfl ?_
        show pm_E _ _ _ 47 [(0, .ref (pl 9)), (1, .int (iI x))] [.ref (pl 9)] _ _ _ _
        refine pm_i_callv (k := (pl 9)) (T2 := pm_mm34) pm_a33_47 rfl rfl rfl (cg_9 hW) ⟨Nat.le_of_ble_eq_true rfl, Nat.le_of_ble_eq_true rfl, rfl, by decide +kernel⟩ ?_
        show pm_E none _ _ 0 [(0, .ref (pl 9))] [] _ _ _ _
        refine C_r_close hW h4 h4' hb hin hCR h12 hi hi0 hs4 h8 (fun s1 a1 t1 => ?_)
        show pm_E _ _ _ 50 [(0, .ref (pl 9)), (1, .int (iI x))] [] _ _ _ _
        refine pm_e_goto pm_a33_50 rfl ?_
        show pm_E _ _ _ 58 [(0, .ref (pl 9)), (1, .int (iI x))] [] _ _ _ _
        refine pm_e_ret pm_a33_58 rfl rfl rfl rfl rfl rfl rfl rfl ?_
        have e9 : pst S 4 x = pClose S.1 S.2.1 := by unfold pst; rw [if_pos h8, if_neg (by decide), if_neg (by decide), if_neg (by decide), if_neg (by omega), if_neg (by omega), if_pos ⟨rfl, by omega⟩]
        have e7 : pft S 4 x = 2 := pft_o h8 (by decide) (by omega)
        rw [e9, e7] at k
        exact k s1 a1 t1
    · skip
      show pm_E _ _ _ 28 [(0, .ref (pl 9)), (1, .int (iI x))] [] _ _ _ _
      refine pm_e_sim pm_a33_28 rfl ?_
      show pm_E _ _ _ 29 [(0, .ref (pl 9)), (1, .int (iI x))] [.ref (pl 9)] _ _ _ _
      refine pm_i_callv (k := (pl 9)) (T2 := pm_mm32) pm_a33_29 rfl rfl rfl (cg_9 hW) ⟨Nat.le_of_ble_eq_true rfl, Nat.le_of_ble_eq_true rfl, rfl, by decide +kernel⟩ ?_
      show pm_E none _ _ 0 [(0, .ref (pl 9))] [] _ _ _ _
      refine C_r_countPart hW (by omega) (by omega) (fun a1 p1 q1 => ?_)
      show pm_E _ _ _ 32 [(0, .ref (pl 9)), (1, .int (iI x))] [] _ _ _ _
      refine pm_e_sim pm_a33_32 rfl ?_
      show pm_E _ _ _ 33 [(0, .ref (pl 9)), (1, .int (iI x))] [.ref (pl 9)] _ _ _ _
      refine pm_e_sim pm_a33_33 rfl ?_
      refine pm_e_top (y := iI 1) (by decide +kernel) ?_
      show pm_E _ _ _ 34 [(0, .ref (pl 9)), (1, .int (iI x))] [.int (iI 1), .ref (pl 9)] _ _ _ _
      refine pm_i_put pm_a33_34 rfl (cg_9 hW) rfl (Nat.le_of_ble_eq_true rfl) (Or.inl rfl) (cw_8 hW 1) ?_
      show pm_E _ _ _ 37 [(0, .ref (pl 9)), (1, .int (iI x))] [] _ _ _ _
      refine pm_e_goto pm_a33_37 rfl ?_
      show pm_E _ _ _ 58 [(0, .ref (pl 9)), (1, .int (iI x))] [] _ _ _ _
      refine pm_e_ret pm_a33_58 rfl rfl rfl rfl rfl rfl rfl rfl ?_
      have e9 : pst S 4 x = some (pPart S.1, S.2.1, 1, 0) := by unfold pst; rw [if_pos h8, if_neg (by decide), if_neg (by decide), if_neg (by decide), if_neg (by omega), if_pos ⟨rfl, by omega⟩]
      refine k _ a1 ⟨⟨fun j _ _ _ n8 _ _ => updS_o n8, fun j n3 _ _ => q1 j n3⟩, Or.inr ⟨⟨h12, rfl⟩, ?_, _, ps, e9, CR_lam hCR h8 hi rfl (fun j n8 => updS_o n8) p1 q1⟩⟩
      exact in_rows hin (fun j => by rw [p1]; exact in_upd (hin 3) ⟨by omega, by omega⟩ j) (fun j => by rw [q1 4 (by decide)]; exact hin 4 j) (fun j => by rw [q1 5 (by decide)]; exact hin 5 j) (fun j n3 _ _ => q1 j n3)
  · skip
    show pm_E _ _ _ 6 [(0, .ref (pl 9)), (1, .int (iI x))] [] _ _ _ _
    refine pm_e_sim pm_a33_6 rfl ?_
    show pm_E _ _ _ 7 [(0, .ref (pl 9)), (1, .int (iI x))] [.ref (pl 9)] _ _ _ _
    refine pm_i_callv (k := (pl 9)) (T2 := pm_mm32) pm_a33_7 rfl rfl rfl (cg_9 hW) ⟨Nat.le_of_ble_eq_true rfl, Nat.le_of_ble_eq_true rfl, rfl, by decide +kernel⟩ ?_
    show pm_E none _ _ 0 [(0, .ref (pl 9))] [] _ _ _ _
    refine C_r_countPart hW (by omega) (by omega) (fun a1 p1 q1 => ?_)
    show pm_E _ _ _ 10 [(0, .ref (pl 9)), (1, .int (iI x))] [] _ _ _ _
    refine pm_e_sim pm_a33_10 rfl ?_
    show pm_E _ _ _ 11 [(0, .ref (pl 9)), (1, .int (iI x))] [.ref (pl 9)] _ _ _ _
    refine pm_e_sim pm_a33_11 rfl ?_
    refine pm_e_top (y := iI (-1)) (by decide +kernel) ?_
    show pm_E _ _ _ 12 [(0, .ref (pl 9)), (1, .int (iI x))] [.int (iI (-1)), .ref (pl 9)] _ _ _ _
    refine pm_i_callv (k := (pl 9)) (T2 := pm_mm28) pm_a33_12 rfl rfl rfl (cg_9 hW) ⟨Nat.le_of_ble_eq_true rfl, Nat.le_of_ble_eq_true rfl, rfl, by decide +kernel⟩ ?_
    show pm_E none _ _ 0 [(0, .ref (pl 9)), (1, .int (iI (-1)))] [] _ _ _ _
    refine C_r_openUp hW (by omega) (by omega) (fun l2 s2 f2 g2 => ?_) (fun l2 s2 a2 f2 g2 u2 v2 q2 => ?_)
    · skip
      have e5 : s2 5 = s 5 := g2 5 (by decide) (by decide)
      show pm_E _ _ _ 15 [(0, .ref (pl 9)), (1, .int (iI x))] [] _ _ _ _
      refine pm_e_sim pm_a33_15 rfl ?_
      show pm_E _ _ _ 16 [(0, .ref (pl 9)), (1, .int (iI x))] [.ref (pl 9)] _ _ _ _
      refine pm_i_callv (k := (pl 9)) (T2 := pm_mm15) pm_a33_16 rfl rfl rfl (cg_9 hW) ⟨Nat.le_of_ble_eq_true rfl, Nat.le_of_ble_eq_true rfl, rfl, by decide +kernel⟩ ?_
      show pm_E none _ _ 0 [(0, .ref (pl 9))] [] _ _ _ _
      refine C_r_startRow hW (by show 0 ≤ s2 5; omega) (by show s2 5 < 601; omega) (fun s3 a3 f3 l3 g3 p3 q3 => ?_)
      show pm_E _ _ _ 19 [(0, .ref (pl 9)), (1, .int (iI x))] [] _ _ _ _
      refine pm_e_goto pm_a33_19 rfl ?_
      show pm_E _ _ _ 58 [(0, .ref (pl 9)), (1, .int (iI x))] [] _ _ _ _
      refine pm_e_ret pm_a33_58 rfl rfl rfl rfl rfl rfl rfl rfl ?_
      have e9 : pst S 4 x = (if (S.2.1.length : Int) + nP S.1 = 40 then none else some ((0, 0, []) :: pPart S.1, S.2.1, 0, 0)) := by unfold pst; rw [if_pos h8, if_neg (by decide), if_neg (by decide), if_neg (by decide), if_pos ⟨rfl, by omega⟩]
      have e8 := CR_len hCR
      refine k s3 a3 ⟨⟨fun j n5 n6 _ _ n12 n13 => (g3 j n5 n6).trans (g2 j n12 n13), fun j n3 _ _ => (q3 j n3).trans (q1 j n3)⟩, Or.inl ⟨?_, ?_, by rw [e9, if_pos (by omega)], by rw [g3 12 (by decide) (by decide), f2.1, pft_4 h8 rfl (by omega)], (g3 13 (by decide) (by decide)).trans f2.2⟩⟩
      · rw [g3 12 (by decide) (by decide), f2.1]; decide
      · rw [g3 12 (by decide) (by decide), f2.1]; decide
    · skip
      have e5 : s2 5 = s 5 := g2 5 (by decide)
      show pm_E _ _ _ 15 [(0, .ref (pl 9)), (1, .int (iI x))] [] _ _ _ _
      refine pm_e_sim pm_a33_15 rfl ?_
      show pm_E _ _ _ 16 [(0, .ref (pl 9)), (1, .int (iI x))] [.ref (pl 9)] _ _ _ _
      refine pm_i_callv (k := (pl 9)) (T2 := pm_mm15) pm_a33_16 rfl rfl rfl (cg_9 hW) ⟨Nat.le_of_ble_eq_true rfl, Nat.le_of_ble_eq_true rfl, rfl, by decide +kernel⟩ ?_
      show pm_E none _ _ 0 [(0, .ref (pl 9))] [] _ _ _ _
      refine C_r_startRow hW (by show 0 ≤ s2 5; omega) (by show s2 5 < 601; omega) (fun s3 a3 f3 l3 g3 p3 q3 => ?_)
      show pm_E _ _ _ 19 [(0, .ref (pl 9)), (1, .int (iI x))] [] _ _ _ _
      refine pm_e_goto pm_a33_19 rfl ?_
      show pm_E _ _ _ 58 [(0, .ref (pl 9)), (1, .int (iI x))] [] _ _ _ _
      refine pm_e_ret pm_a33_58 rfl rfl rfl rfl rfl rfl rfl rfl ?_
      have e9 : pst S 4 x = (if (S.2.1.length : Int) + nP S.1 = 40 then none else some ((0, 0, []) :: pPart S.1, S.2.1, 0, 0)) := by unfold pst; rw [if_pos h8, if_neg (by decide), if_neg (by decide), if_neg (by decide), if_pos ⟨rfl, by omega⟩]
      have e8 := CR_len hCR
      have o3 : a3 3 = updI (updI (a 3) (s 6) (a 3 (s 6) - 1)) (s 5) 0 := by rw [p3, q2 3 (by decide) (by decide), p1, e5]
      have o4 : a3 4 = updI (a 4) (s 7) (-1) := by rw [q3 4 (by decide), u2, q1 4 (by decide)]
      have o5 : a3 5 = updI (a 5) (s 7) (s 6) := by rw [q3 5 (by decide), v2, q1 5 (by decide)]
      refine k s3 a3 ⟨⟨fun j n5 n6 n7 _ _ _ => (g3 j n5 n6).trans (g2 j n7), fun j n3 n4 n5 => (q3 j n3).trans ((q2 j n4 n5).trans (q1 j n3))⟩, Or.inr ⟨⟨?_, (g3 13 (by decide) (by decide)).trans (g2 13 (by decide))⟩, ?_, _, ps, by rw [e9, if_neg (by omega)], ?_⟩⟩
      · rw [g3 12 (by decide) (by decide), g2 12 (by decide)]; exact h12
      · exact in_rows hin (fun j => by rw [o3]; exact in_upd (in_upd (hin 3) ⟨by omega, by omega⟩) (by decide) j) (fun j => by rw [o4]; exact in_upd (hin 4) (by decide) j) (fun j => by rw [o5]; exact in_upd (hin 5) ⟨by omega, by omega⟩ j) (fun j n3 n4 n5 => (q3 j n3).trans ((q2 j n4 n5).trans (q1 j n3)))
      · exact CR_open hCR h8 hi l2 (by rw [f3, e5]) (by rw [l3, e5]) ((g3 7 (by decide) (by decide)).trans f2) (fun j n5 n6 n7 => (g3 j n5 n6).trans (g2 j n7)) o3 o4 o5
set_option maxHeartbeats 4000000 in
set_option maxRecDepth 100000 in
theorem C_r_takeInHead {d n : Nat} {kd pl : Nat → Nat} {s : Nat → Int} {a : Nat → Int → Int} {c : Nat → cdt} {M : List va_E} {Q : Option Value → List va_E → Nat → Nat → Prop} {S : PS} {ps : List Int} {i : Int} {v : Int} (hW : wf n kd pl) (h4 : 0 ≤ s 4) (h4' : s 4 ≤ 600) (hb : ∀ j, 0 ≤ a 0 j ∧ a 0 j ≤ 255) (hin : ∀ i j, in32 (a i j)) (hCR : CR (a 0) (s 4) S ps i s a) (h12 : s 12 = 0) (hi1 : 1 ≤ s 9 → i < s 11) (hi0 : 0 ≤ i) (hie : i ≤ 600) (hi2 : 1 ≤ s 9 → i < 600) (h9 : 0 ≤ s 9) (h9' : s 9 ≤ 4) (h10' : 0 ≤ s 10) (h10e : s 10 ≤ 600) (h10 : 1 ≤ s 9 → s 10 < s 4) (hn1 : s 9 = 1 → nmP (a 0) (s 4) (s 10) ∧ v = nv (a 0) (s 4) (s 10)) (hn4 : s 9 = 4 → v = a 0 (s 10)) (h8 : S.2.2.1 ≠ 0) (k : ∀ s' a', TKP (pft S (s 9) v) (pst S (s 9) v) (a 0) (s 4) (s 11) s a s' a' → Q none (ch n kd pl s' a' c M) 0 0) : pm_E none (d + 2) pm_mm27 0 [(0, .ref (pl 9))] [] (ch n kd pl s a c M) 0 0 Q := by
  obtain ⟨y9, r9, hL9, he9, r69, r39, rv9, z1, z2, z3⟩ := CR_row hCR
  have h70 : 0 ≤ s 7 ∧ s 7 ≤ 40 := ⟨by rw [hCR.2.2.1.1]; omega, hCR.2.2.2.2.2.2.2.2.2.2⟩
  obtain ⟨h7, h7'⟩ := h70
  have e88 : s 8 = S.2.2.1 := hCR.2.2.2.1
  obtain ⟨_, _, _, kb0, kb1⟩ := hCR.2.2.2.2.2.2.2.1
  refine pm_e_sim pm_a27_0 rfl ?_
  show pm_E _ _ _ 1 [(0, .ref (pl 9))] [.ref (pl 9)] _ _ _ _
  refine pm_i_get pm_a27_1 rfl (cg_9 hW) rfl ?_
  show pm_E _ _ _ 4 [(0, .ref (pl 9))] [.int (iI (s 9))] _ _ _ _
  refine pm_e_sim pm_a27_4 rfl ?_
  refine pm_e_top (y := iI 1) (by decide +kernel) ?_
  show pm_E _ _ _ 5 [(0, .ref (pl 9))] [.int (iI 1), .int (iI (s 9))] _ _ _ _
  refine pm_c_ne (t := 29) pm_a27_5 rfl ⟨by omega, by omega⟩ ⟨by omega, by omega⟩ (fun h_1 => ?_) (fun h_1 => ?_)
  · skip
    show pm_E _ _ _ 29 [(0, .ref (pl 9))] [] _ _ _ _
    refine pm_e_sim pm_a27_29 rfl ?_
    show pm_E _ _ _ 30 [(0, .ref (pl 9))] [.ref (pl 9)] _ _ _ _
    refine pm_i_get pm_a27_30 rfl (cg_9 hW) rfl ?_
    show pm_E _ _ _ 33 [(0, .ref (pl 9))] [.int (iI (s 8))] _ _ _ _
    refine pm_e_sim pm_a27_33 rfl ?_
    refine pm_e_top (y := iI 2) (by decide +kernel) ?_
    show pm_E _ _ _ 34 [(0, .ref (pl 9))] [.int (iI 2), .int (iI (s 8))] _ _ _ _
    refine pm_c_ne (t := 73) pm_a27_34 rfl ⟨by omega, by omega⟩ ⟨by omega, by omega⟩ (fun h_2 => ?_) (fun h_2 => ?_)
    · skip
      show pm_E _ _ _ 73 [(0, .ref (pl 9))] [] _ _ _ _
      refine pm_e_sim pm_a27_73 rfl ?_
      show pm_E _ _ _ 74 [(0, .ref (pl 9))] [.ref (pl 9)] _ _ _ _
      refine pm_e_sim pm_a27_74 rfl ?_
      refine pm_e_top (y := iI 2) (by decide +kernel) ?_
      show pm_E _ _ _ 75 [(0, .ref (pl 9))] [.int (iI 2), .ref (pl 9)] _ _ _ _
      refine pm_i_callv (k := (pl 9)) (T2 := pm_mm22) pm_a27_75 rfl rfl rfl (cg_9 hW) ⟨Nat.le_of_ble_eq_true rfl, Nat.le_of_ble_eq_true rfl, rfl, by decide +kernel⟩ ?_
      show pm_E none _ _ 0 [(0, .ref (pl 9)), (1, .int (iI 2))] [] _ _ _ _
      refine C_r_fail hW (fun s_3 f_3 g_3 => ?_)
      show pm_E _ _ _ 78 [(0, .ref (pl 9))] [] _ _ _ _
      refine pm_e_ret pm_a27_78 rfl rfl rfl rfl rfl rfl rfl rfl ?_
      have e9 : pst S (s 9) v = none := by unfold pst; rw [if_neg h8, if_neg (by omega), if_neg (by omega)]
      exact k s_3 a ⟨⟨fun j _ _ _ _ n12 n13 => g_3 j n12 n13, fun _ _ _ _ => rfl⟩, Or.inl ⟨by omega, by omega, e9, by rw [f_3.1, pft_h h8 (by omega)], f_3.2⟩⟩
    · skip
      show pm_E _ _ _ 37 [(0, .ref (pl 9))] [] _ _ _ _
      refine pm_e_sim pm_a27_37 rfl ?_
      show pm_E _ _ _ 38 [(0, .ref (pl 9))] [.ref (pl 9)] _ _ _ _
      refine pm_i_get pm_a27_38 rfl (cg_9 hW) rfl ?_
      show pm_E _ _ _ 41 [(0, .ref (pl 9))] [.int (iI (s 9))] _ _ _ _
      refine pm_e_sim pm_a27_41 rfl ?_
      refine pm_e_top (y := iI 4) (by decide +kernel) ?_
      show pm_E _ _ _ 42 [(0, .ref (pl 9))] [.int (iI 4), .int (iI (s 9))] _ _ _ _
      refine pm_c_ne (t := 73) pm_a27_42 rfl ⟨by omega, by omega⟩ ⟨by omega, by omega⟩ (fun h_4 => ?_) (fun h_4 => ?_)
      · skip
        show pm_E _ _ _ 73 [(0, .ref (pl 9))] [] _ _ _ _
        refine pm_e_sim pm_a27_73 rfl ?_
        show pm_E _ _ _ 74 [(0, .ref (pl 9))] [.ref (pl 9)] _ _ _ _
        refine pm_e_sim pm_a27_74 rfl ?_
        refine pm_e_top (y := iI 2) (by decide +kernel) ?_
        show pm_E _ _ _ 75 [(0, .ref (pl 9))] [.int (iI 2), .ref (pl 9)] _ _ _ _
        refine pm_i_callv (k := (pl 9)) (T2 := pm_mm22) pm_a27_75 rfl rfl rfl (cg_9 hW) ⟨Nat.le_of_ble_eq_true rfl, Nat.le_of_ble_eq_true rfl, rfl, by decide +kernel⟩ ?_
        show pm_E none _ _ 0 [(0, .ref (pl 9)), (1, .int (iI 2))] [] _ _ _ _
        refine C_r_fail hW (fun s_5 f_5 g_5 => ?_)
        show pm_E _ _ _ 78 [(0, .ref (pl 9))] [] _ _ _ _
        refine pm_e_ret pm_a27_78 rfl rfl rfl rfl rfl rfl rfl rfl ?_
        have e9 : pst S (s 9) v = none := by unfold pst; rw [if_neg h8, if_neg (by omega), if_neg (by omega)]
        exact k s_5 a ⟨⟨fun j _ _ _ _ n12 n13 => g_5 j n12 n13, fun _ _ _ _ => rfl⟩, Or.inl ⟨by omega, by omega, e9, by rw [f_5.1, pft_h h8 (by omega)], f_5.2⟩⟩
      · skip
        show pm_E _ _ _ 45 [(0, .ref (pl 9))] [] _ _ _ _
        refine pm_e_sim pm_a27_45 rfl ?_
        show pm_E _ _ _ 46 [(0, .ref (pl 9))] [.ref (pl 9)] _ _ _ _
        refine pm_i_get pm_a27_46 rfl (cg_9 hW) rfl ?_
        show pm_E _ _ _ 49 [(0, .ref (pl 9))] [.ref (pl 1)] _ _ _ _
        refine pm_e_sim pm_a27_49 rfl ?_
        show pm_E _ _ _ 50 [(0, .ref (pl 9))] [.ref (pl 9), .ref (pl 1)] _ _ _ _
        refine pm_i_get pm_a27_50 rfl (cg_9 hW) rfl ?_
        show pm_E _ _ _ 53 [(0, .ref (pl 9))] [.int (iI (s 10)), .ref (pl 1)] _ _ _ _
        refine pm_i_callv (k := (pl 1)) (T2 := pm_mm19) pm_a27_53 rfl rfl rfl (cg_1 hW) ⟨Nat.le_of_ble_eq_true rfl, Nat.le_of_ble_eq_true rfl, rfl, by decide +kernel⟩ ?_
        show pm_E none _ _ 0 [(0, .ref (pl 1)), (1, .int (iI (s 10)))] [] _ _ _ _
        refine C_tat hW h4 h4' ⟨by omega, by omega⟩ (fun _ _ => ?_) (fun z9 => by exfalso; have z8 := h10 (by omega); omega)
        obtain ⟨_, _⟩ := hb (s 10)
        have hv4 := hn4 (by omega)
        show pm_E _ _ _ 56 [(0, .ref (pl 9))] [.int (iI (a 0 (s 10)))] _ _ _ _
        refine pm_e_sim pm_a27_56 rfl ?_
        refine pm_e_top (y := iI 46) (by decide +kernel) ?_
        show pm_E _ _ _ 58 [(0, .ref (pl 9))] [.int (iI 46), .int (iI (a 0 (s 10)))] _ _ _ _
        refine pm_c_ne (t := 73) pm_a27_58 rfl ⟨by omega, by omega⟩ ⟨by omega, by omega⟩ (fun h_6 => ?_) (fun h_6 => ?_)
        · skip
          show pm_E _ _ _ 73 [(0, .ref (pl 9))] [] _ _ _ _
          refine pm_e_sim pm_a27_73 rfl ?_
          show pm_E _ _ _ 74 [(0, .ref (pl 9))] [.ref (pl 9)] _ _ _ _
          refine pm_e_sim pm_a27_74 rfl ?_
          refine pm_e_top (y := iI 2) (by decide +kernel) ?_
          show pm_E _ _ _ 75 [(0, .ref (pl 9))] [.int (iI 2), .ref (pl 9)] _ _ _ _
          refine pm_i_callv (k := (pl 9)) (T2 := pm_mm22) pm_a27_75 rfl rfl rfl (cg_9 hW) ⟨Nat.le_of_ble_eq_true rfl, Nat.le_of_ble_eq_true rfl, rfl, by decide +kernel⟩ ?_
          show pm_E none _ _ 0 [(0, .ref (pl 9)), (1, .int (iI 2))] [] _ _ _ _
          refine C_r_fail hW (fun s_7 f_7 g_7 => ?_)
          show pm_E _ _ _ 78 [(0, .ref (pl 9))] [] _ _ _ _
          refine pm_e_ret pm_a27_78 rfl rfl rfl rfl rfl rfl rfl rfl ?_
          have e9 : pst S (s 9) v = none := by unfold pst; rw [if_neg h8, if_neg (by omega), if_neg (by omega)]
          exact k s_7 a ⟨⟨fun j _ _ _ _ n12 n13 => g_7 j n12 n13, fun _ _ _ _ => rfl⟩, Or.inl ⟨by omega, by omega, e9, by rw [f_7.1, pft_h h8 (by omega)], f_7.2⟩⟩
        · skip
          show pm_E _ _ _ 61 [(0, .ref (pl 9))] [] _ _ _ _
          refine pm_e_sim pm_a27_61 rfl ?_
          show pm_E _ _ _ 62 [(0, .ref (pl 9))] [.ref (pl 9)] _ _ _ _
          refine pm_e_sim pm_a27_62 rfl ?_
          refine pm_e_top (y := iI 0) (by decide +kernel) ?_
          show pm_E _ _ _ 63 [(0, .ref (pl 9))] [.int (iI 0), .ref (pl 9)] _ _ _ _
          refine pm_i_put pm_a27_63 rfl (cg_9 hW) rfl (Nat.le_of_ble_eq_true rfl) (Or.inl rfl) (cw_8 hW 0) ?_
          show pm_E _ _ _ 66 [(0, .ref (pl 9))] [] _ _ _ _
          refine pm_e_sim pm_a27_66 rfl ?_
          show pm_E _ _ _ 67 [(0, .ref (pl 9))] [.ref (pl 9)] _ _ _ _
          refine pm_i_callv (k := (pl 9)) (T2 := pm_mm15) pm_a27_67 rfl rfl rfl (cg_9 hW) ⟨Nat.le_of_ble_eq_true rfl, Nat.le_of_ble_eq_true rfl, rfl, by decide +kernel⟩ ?_
          show pm_E none _ _ 0 [(0, .ref (pl 9))] [] _ _ _ _
          refine C_r_startRow hW (by show 0 ≤ s 5; omega) (by show s 5 < 601; omega) (fun s3 a3 f3 l3 g3 p3 q3 => ?_)
          show pm_E _ _ _ 70 [(0, .ref (pl 9))] [] _ _ _ _
          refine pm_e_goto pm_a27_70 rfl ?_
          show pm_E _ _ _ 78 [(0, .ref (pl 9))] [] _ _ _ _
          refine pm_e_ret pm_a27_78 rfl rfl rfl rfl rfl rfl rfl rfl ?_
          have e9 : pst S (s 9) v = some ((S.2.2.2, 0, []) :: S.1, S.2.1, 0, 0) := by unfold pst; rw [if_neg h8, if_neg (by omega), if_pos ⟨by omega, by omega, by omega⟩]
          have hi := hi1 (by omega)
          refine k s3 a3 ⟨⟨fun j n5 n6 _ n8 _ _ => (g3 j n5 n6).trans (updS_o n8), fun j n3 _ _ => q3 j n3⟩, Or.inr ⟨⟨?_, g3 13 (by decide) (by decide)⟩, ?_, _, ps, e9, ?_⟩⟩
          · rw [g3 12 (by decide) (by decide)]; exact h12
          · exact in_rows hin (fun j => by rw [p3]; exact in_upd (hin 3) (by decide) j) (fun j => by rw [q3 4 (by decide)]; exact hin 4 j) (fun j => by rw [q3 5 (by decide)]; exact hin 5 j) (fun j n3 _ _ => q3 j n3)
          · exact CR_dot hCR (by omega) hi hi0 f3 l3 (g3 8 (by decide) (by decide)) (fun j n5 n6 n8 => (g3 j n5 n6).trans (updS_o n8)) p3 q3
  · skip
    show pm_E _ _ _ 8 [(0, .ref (pl 9))] [] _ _ _ _
    refine pm_e_sim pm_a27_8 rfl ?_
    show pm_E _ _ _ 9 [(0, .ref (pl 9))] [.ref (pl 9)] _ _ _ _
    refine pm_e_sim pm_a27_9 rfl ?_
    show pm_E _ _ _ 10 [(0, .ref (pl 9))] [.ref (pl 9), .ref (pl 9)] _ _ _ _
    refine pm_i_get pm_a27_10 rfl (cg_9 hW) rfl ?_
    show pm_E _ _ _ 13 [(0, .ref (pl 9))] [.int (iI (s 10)), .ref (pl 9)] _ _ _ _
    refine pm_i_callv (k := (pl 9)) (T2 := pm_mm28) pm_a27_13 rfl rfl rfl (cg_9 hW) ⟨Nat.le_of_ble_eq_true rfl, Nat.le_of_ble_eq_true rfl, rfl, by decide +kernel⟩ ?_
    show pm_E none _ _ 0 [(0, .ref (pl 9)), (1, .int (iI (s 10)))] [] _ _ _ _
    have h91 : s 9 = 1 := by omega
    obtain ⟨hq, hv⟩ := hn1 h91
    have hi := hi1 (by omega)
    refine C_r_openUp hW (by omega) (by omega) (fun l2 s2 f2 g2 => ?_) (fun l2 s2 a2 f2 g2 u2 v2 q2 => ?_)
    · skip
      have e5 : s2 5 = s 5 := g2 5 (by decide) (by decide)
      show pm_E _ _ _ 16 [(0, .ref (pl 9))] [] _ _ _ _
      refine pm_e_sim pm_a27_16 rfl ?_
      show pm_E _ _ _ 17 [(0, .ref (pl 9))] [.ref (pl 9)] _ _ _ _
      refine pm_e_sim pm_a27_17 rfl ?_
      refine pm_e_top (y := iI 1) (by decide +kernel) ?_
      show pm_E _ _ _ 18 [(0, .ref (pl 9))] [.int (iI 1), .ref (pl 9)] _ _ _ _
      refine pm_i_callv (k := (pl 9)) (T2 := pm_mm16) pm_a27_18 rfl rfl rfl (cg_9 hW) ⟨Nat.le_of_ble_eq_true rfl, Nat.le_of_ble_eq_true rfl, rfl, by decide +kernel⟩ ?_
      show pm_E none _ _ 0 [(0, .ref (pl 9)), (1, .int (iI 1))] [] _ _ _ _
      refine C_r_putItem hW (by show 0 ≤ s2 5; omega) (by show s2 5 < 601; omega) (fun s3 a3 f3 g3 p3 q3 => ?_)
      show pm_E _ _ _ 21 [(0, .ref (pl 9))] [] _ _ _ _
      refine pm_e_sim pm_a27_21 rfl ?_
      show pm_E _ _ _ 22 [(0, .ref (pl 9))] [.ref (pl 9)] _ _ _ _
      refine pm_e_sim pm_a27_22 rfl ?_
      refine pm_e_top (y := iI 2) (by decide +kernel) ?_
      show pm_E _ _ _ 23 [(0, .ref (pl 9))] [.int (iI 2), .ref (pl 9)] _ _ _ _
      refine pm_i_put pm_a27_23 rfl (cg_9 hW) rfl (Nat.le_of_ble_eq_true rfl) (Or.inl rfl) (cw_8 hW 2) ?_
      show pm_E _ _ _ 26 [(0, .ref (pl 9))] [] _ _ _ _
      refine pm_e_goto pm_a27_26 rfl ?_
      show pm_E _ _ _ 78 [(0, .ref (pl 9))] [] _ _ _ _
      refine pm_e_ret pm_a27_78 rfl rfl rfl rfl rfl rfl rfl rfl ?_
      have e9 : pst S (s 9) v = (if (S.2.1.length : Int) + nP S.1 = 40 then none else some (pAdd S.1 1, v :: S.2.1, 2, S.2.2.2 + 1)) := by unfold pst; rw [if_neg h8, if_pos (by omega)]
      have e8 := CR_len hCR
      refine k _ a3 ⟨⟨fun j n5 _ _ n8 n12 n13 => (updS_o n8).trans ((g3 j n5).trans (g2 j n12 n13)), fun j n3 _ _ => q3 j n3⟩, Or.inl ⟨?_, ?_, by rw [e9, if_pos (by omega)], by show s3 12 = _; rw [g3 12 (by decide), f2.1, pft_h1 h8 h91], by show s3 13 = _; rw [g3 13 (by decide)]; exact f2.2⟩⟩
      · show 1 ≤ s3 12; rw [g3 12 (by decide), f2.1]; decide
      · show s3 12 ≤ 5; rw [g3 12 (by decide), f2.1]; decide
    · skip
      have e5 : s2 5 = s 5 := g2 5 (by decide)
      show pm_E _ _ _ 16 [(0, .ref (pl 9))] [] _ _ _ _
      refine pm_e_sim pm_a27_16 rfl ?_
      show pm_E _ _ _ 17 [(0, .ref (pl 9))] [.ref (pl 9)] _ _ _ _
      refine pm_e_sim pm_a27_17 rfl ?_
      refine pm_e_top (y := iI 1) (by decide +kernel) ?_
      show pm_E _ _ _ 18 [(0, .ref (pl 9))] [.int (iI 1), .ref (pl 9)] _ _ _ _
      refine pm_i_callv (k := (pl 9)) (T2 := pm_mm16) pm_a27_18 rfl rfl rfl (cg_9 hW) ⟨Nat.le_of_ble_eq_true rfl, Nat.le_of_ble_eq_true rfl, rfl, by decide +kernel⟩ ?_
      show pm_E none _ _ 0 [(0, .ref (pl 9)), (1, .int (iI 1))] [] _ _ _ _
      refine C_r_putItem hW (by show 0 ≤ s2 5; omega) (by show s2 5 < 601; omega) (fun s3 a3 f3 g3 p3 q3 => ?_)
      show pm_E _ _ _ 21 [(0, .ref (pl 9))] [] _ _ _ _
      refine pm_e_sim pm_a27_21 rfl ?_
      show pm_E _ _ _ 22 [(0, .ref (pl 9))] [.ref (pl 9)] _ _ _ _
      refine pm_e_sim pm_a27_22 rfl ?_
      refine pm_e_top (y := iI 2) (by decide +kernel) ?_
      show pm_E _ _ _ 23 [(0, .ref (pl 9))] [.int (iI 2), .ref (pl 9)] _ _ _ _
      refine pm_i_put pm_a27_23 rfl (cg_9 hW) rfl (Nat.le_of_ble_eq_true rfl) (Or.inl rfl) (cw_8 hW 2) ?_
      show pm_E _ _ _ 26 [(0, .ref (pl 9))] [] _ _ _ _
      refine pm_e_goto pm_a27_26 rfl ?_
      show pm_E _ _ _ 78 [(0, .ref (pl 9))] [] _ _ _ _
      refine pm_e_ret pm_a27_78 rfl rfl rfl rfl rfl rfl rfl rfl ?_
      have e9 : pst S (s 9) v = (if (S.2.1.length : Int) + nP S.1 = 40 then none else some (pAdd S.1 1, v :: S.2.1, 2, S.2.2.2 + 1)) := by unfold pst; rw [if_neg h8, if_pos (by omega)]
      have e8 := CR_len hCR
      have o3 : a3 3 = updI (a 3) (s 5) 1 := by rw [p3, q2 3 (by decide) (by decide), e5]
      have o4 : a3 4 = updI (a 4) (s 7) (s 10) := by rw [q3 4 (by decide), u2]
      have o5 : a3 5 = updI (a 5) (s 7) (s 6) := by rw [q3 5 (by decide), v2]
      have oq : ∀ j, j ≠ 3 → j ≠ 4 → j ≠ 5 → a3 j = a j := fun j n3 n4 n5 => (q3 j n3).trans (q2 j n4 n5)
      refine k _ a3 ⟨⟨fun j n5 _ n7 n8 _ _ => (updS_o n8).trans ((g3 j n5).trans (g2 j n7)), oq⟩, Or.inr ⟨⟨?_, (show s3 13 = s 13 from (g3 13 (by decide)).trans (g2 13 (by decide)))⟩, ?_, _, s 10 :: ps, by rw [e9, if_neg (by omega), hv], ?_⟩⟩
      · show s3 12 = 0; rw [g3 12 (by decide), g2 12 (by decide)]; exact h12
      · exact in_rows hin (fun j => by rw [o3]; exact in_upd (hin 3) (by decide) j) (fun j => by rw [o4]; exact in_upd (hin 4) ⟨by omega, by omega⟩ j) (fun j => by rw [o5]; exact in_upd (hin 5) ⟨by omega, by omega⟩ j) oq
      · exact CR_name hCR h8 hq hi hi0 l2 (by show s3 5 = s 5 + 1; rw [f3, e5]) (by show s3 7 = s 7 + 1; exact (g3 7 (by decide)).trans f2) rfl (fun j n5 n7 n8 => (updS_o n8).trans ((g3 j n5).trans (g2 j n7))) o3 o4 o5
