/-! THE CLASS: Reader: takeToken, takeTokens -/
set_option maxHeartbeats 4000000 in
set_option maxRecDepth 100000 in
theorem C_r_tk1 {d n : Nat} {kd pl : Nat → Nat} {s : Nat → Int} {a : Nat → Int → Int} {c : Nat → cdt} {M : List va_E} {Q : Option Value → List va_E → Nat → Nat → Prop} {S : PS} {ps : List Int} {i : Int} (hW : wf n kd pl) (h4 : 0 ≤ s 4) (h4' : s 4 ≤ 600) (hb : ∀ j, 0 ≤ a 0 j ∧ a 0 j ≤ 255) (hin : ∀ i j, in32 (a i j)) (hCR : CR (a 0) (s 4) S ps i s a) (h12 : s 12 = 0) (hi : i < s 11) (hi0 : 0 ≤ i) (hs4 : s 11 ≤ s 4) (hq : nmP (a 0) (s 4) (s 10)) (h11 : s 11 = nEnd (a 0) (s 4) (s 10)) (h8 : S.2.2.1 = 0) (h9 : s 9 = 1) (k : ∀ s' a', TKP (pft S 1 (nv (a 0) (s 4) (s 10))) (pst S 1 (nv (a 0) (s 4) (s 10))) (a 0) (s 4) (s 11) s a s' a' → Q none (ch n kd pl s' a' c M) 0 0) : pm_E none (d + 4) pm_mm26 0 [(0, .ref (pl 9))] [] (ch n kd pl s a c M) 0 0 Q := by
  have e88 : s 8 = S.2.2.1 := hCR.2.2.2.1
  refine pm_e_sim pm_a26_0 rfl ?_
  show pm_E _ _ _ 1 [(0, .ref (pl 9))] [.ref (pl 9)] _ _ _ _
  refine pm_i_get pm_a26_1 rfl (cg_9 hW) rfl ?_
  show pm_E _ _ _ 4 [(0, .ref (pl 9))] [.int (iI (s 8))] _ _ _ _
  refine pm_i_eq (t := 12) pm_a26_4 rfl ⟨by omega, by omega⟩ (fun h_1 => ?_) (fun h_1 => ?_)
  · skip
    show pm_E _ _ _ 12 [(0, .ref (pl 9))] [] _ _ _ _
    refine pm_e_sim pm_a26_12 rfl ?_
    show pm_E _ _ _ 13 [(0, .ref (pl 9))] [.ref (pl 9)] _ _ _ _
    refine pm_i_get pm_a26_13 rfl (cg_9 hW) rfl ?_
    show pm_E _ _ _ 16 [(0, .ref (pl 9))] [.int (iI (s 9))] _ _ _ _
    by_cases h_2 : s 9 = 1
    · skip
      refine pm_e_top (y := iI 1) (congrArg iI h_2) ?_
      refine pm_e_tsi (t := 48) pm_a26_16 rfl rfl ?_
      show pm_E _ _ _ 48 [(0, .ref (pl 9))] [] _ _ _ _
      refine pm_e_sim pm_a26_48 rfl ?_
      show pm_E _ _ _ 49 [(0, .ref (pl 9))] [.ref (pl 9)] _ _ _ _
      refine pm_i_callv (k := (pl 9)) (T2 := pm_mm29) pm_a26_49 rfl rfl rfl (cg_9 hW) ⟨Nat.le_of_ble_eq_true rfl, Nat.le_of_ble_eq_true rfl, rfl, by decide +kernel⟩ ?_
      show pm_E none _ _ 0 [(0, .ref (pl 9))] [] _ _ _ _
      refine C_r_takeVariable hW h4 h4' hb hin hCR h12 hi hi0 hs4 hq h11 h8 (fun s1 a1 t1 => ?_)
      show pm_E _ _ _ 52 [(0, .ref (pl 9))] [] _ _ _ _
      refine pm_e_goto pm_a26_52 rfl ?_
      show pm_E _ _ _ 118 [(0, .ref (pl 9))] [] _ _ _ _
      refine pm_e_ret pm_a26_118 rfl rfl rfl rfl rfl rfl rfl rfl ?_
      exact k s1 a1 t1
    by_cases h_3 : s 9 = 2
    · skip
      exfalso; omega
    by_cases h_4 : s 9 = 3
    · skip
      exfalso; omega
    by_cases h_5 : s 9 = 4
    · skip
      exfalso; omega
    exfalso; omega
  · skip
    exfalso; omega
set_option maxHeartbeats 4000000 in
set_option maxRecDepth 100000 in
theorem C_r_tk2 {d n : Nat} {kd pl : Nat → Nat} {s : Nat → Int} {a : Nat → Int → Int} {c : Nat → cdt} {M : List va_E} {Q : Option Value → List va_E → Nat → Nat → Prop} {S : PS} {ps : List Int} {i : Int} {v : Int} (hW : wf n kd pl) (h4 : 0 ≤ s 4) (h4' : s 4 ≤ 600) (hb : ∀ j, 0 ≤ a 0 j ∧ a 0 j ≤ 255) (hin : ∀ i j, in32 (a i j)) (hCR : CR (a 0) (s 4) S ps i s a) (h12 : s 12 = 0) (hi : i < s 11) (hi0 : 0 ≤ i) (hs4 : s 11 ≤ s 4) (h8 : S.2.2.1 = 0) (h9 : s 9 = 2) (h10 : 0 ≤ s 10) (h10' : s 10 < s 11) (hv0 : 0 ≤ v) (hv20 : v ≤ 20) (hv1 : s 11 - s 10 = 1 → v = a 0 (s 10) - 48) (hv2 : s 11 - s 10 ≠ 1 → v = (a 0 (s 10) - 48) * 10 + a 0 (s 10 + 1) - 48) (k : ∀ s' a', TKP (pft S 2 v) (pst S 2 v) (a 0) (s 4) (s 11) s a s' a' → Q none (ch n kd pl s' a' c M) 0 0) : pm_E none (d + 4) pm_mm26 0 [(0, .ref (pl 9))] [] (ch n kd pl s a c M) 0 0 Q := by
  obtain ⟨y9, r9, hL9, he9, r69, r39, rv9, z1, z2, z3⟩ := CR_row hCR
  obtain ⟨_, _⟩ := hin 3 (s 6)
  have e88 : s 8 = S.2.2.1 := hCR.2.2.2.1
  refine pm_e_sim pm_a26_0 rfl ?_
  show pm_E _ _ _ 1 [(0, .ref (pl 9))] [.ref (pl 9)] _ _ _ _
  refine pm_i_get pm_a26_1 rfl (cg_9 hW) rfl ?_
  show pm_E _ _ _ 4 [(0, .ref (pl 9))] [.int (iI (s 8))] _ _ _ _
  refine pm_i_eq (t := 12) pm_a26_4 rfl ⟨by omega, by omega⟩ (fun h_1 => ?_) (fun h_1 => ?_)
  · skip
    show pm_E _ _ _ 12 [(0, .ref (pl 9))] [] _ _ _ _
    refine pm_e_sim pm_a26_12 rfl ?_
    show pm_E _ _ _ 13 [(0, .ref (pl 9))] [.ref (pl 9)] _ _ _ _
    refine pm_i_get pm_a26_13 rfl (cg_9 hW) rfl ?_
    show pm_E _ _ _ 16 [(0, .ref (pl 9))] [.int (iI (s 9))] _ _ _ _
    by_cases h_2 : s 9 = 1
    · skip
      exfalso; omega
    by_cases h_3 : s 9 = 2
    · skip
      refine pm_e_top (y := iI 2) (congrArg iI h_3) ?_
      refine pm_e_tsi (t := 55) pm_a26_16 rfl rfl ?_
      show pm_E _ _ _ 55 [(0, .ref (pl 9))] [] _ _ _ _
      refine pm_e_sim pm_a26_55 rfl ?_
      show pm_E _ _ _ 56 [(0, .ref (pl 9))] [.ref (pl 9)] _ _ _ _
      refine pm_e_sim pm_a26_56 rfl ?_
      refine pm_e_top (y := iI 1000) (by decide +kernel) ?_
      show pm_E _ _ _ 59 [(0, .ref (pl 9))] [.int (iI 1000), .ref (pl 9)] _ _ _ _
      refine pm_e_sim pm_a26_59 rfl ?_
      show pm_E _ _ _ 60 [(0, .ref (pl 9))] [.ref (pl 9), .int (iI 1000), .ref (pl 9)] _ _ _ _
      refine pm_i_callv (k := (pl 9)) (T2 := pm_mm25) pm_a26_60 rfl rfl rfl (cg_9 hW) ⟨Nat.le_of_ble_eq_true rfl, Nat.le_of_ble_eq_true rfl, rfl, by decide +kernel⟩ ?_
      show pm_E none _ _ 0 [(0, .ref (pl 9))] [] _ _ _ _
      refine C_r_numberRead hW h4 h4' hb h10 h10' hs4 (fun n9 => ?_) (fun n9 r9 m9 => ?_)
      · skip
        refine pm_e_top (y := iI v) (congrArg iI (hv1 n9).symm) ?_
        show pm_E _ _ _ 63 [(0, .ref (pl 9))] [.int (iI v), .int (iI 1000), .ref (pl 9)] _ _ _ _
        refine pm_e_sim pm_a26_63 rfl ?_
        refine pm_e_top (y := iI (1000 + v)) (iI_add _ _) ?_
        show pm_E _ _ _ 64 [(0, .ref (pl 9))] [.int (iI (1000 + v)), .ref (pl 9)] _ _ _ _
        refine pm_i_callv (k := (pl 9)) (T2 := pm_mm31) pm_a26_64 rfl rfl rfl (cg_9 hW) ⟨Nat.le_of_ble_eq_true rfl, Nat.le_of_ble_eq_true rfl, rfl, by decide +kernel⟩ ?_
        show pm_E none _ _ 0 [(0, .ref (pl 9)), (1, .int (iI (1000 + v)))] [] _ _ _ _
        refine C_r_takePart hW (by omega) (by omega) (by omega) (by omega) (fun s1 a1 f1 g1 p1 o1 => ?_)
        show pm_E _ _ _ 67 [(0, .ref (pl 9))] [] _ _ _ _
        refine pm_e_goto pm_a26_67 rfl ?_
        show pm_E _ _ _ 118 [(0, .ref (pl 9))] [] _ _ _ _
        refine pm_e_ret pm_a26_118 rfl rfl rfl rfl rfl rfl rfl rfl ?_
        have epst : pst S 2 v = some (pAdd (pPart S.1) (1000 + v), S.2.1, 0, 0) := by unfold pst; rw [if_pos h8, if_neg (by decide), if_pos rfl]
        refine k s1 a1 ⟨⟨fun j n5 _ _ _ _ _ => g1 j n5, fun j n3 _ _ => o1 j n3⟩, Or.inr ⟨⟨by rw [g1 12 (by decide)]; exact h12, g1 13 (by decide)⟩, ?_, _, ps, epst, CR_take hCR h8 hi ⟨by omega, by omega⟩ f1 g1 p1 o1⟩⟩
        exact in_rows hin (fun j => by rw [p1]; exact in_upd (in_upd (hin 3) ⟨by omega, by omega⟩) ⟨by omega, by omega⟩ j) (fun j => by rw [o1 4 (by decide)]; exact hin 4 j) (fun j => by rw [o1 5 (by decide)]; exact hin 5 j) (fun j n3 _ _ => o1 j n3)
      · skip
        refine pm_e_top (y := iI v) (congrArg iI (m9.trans (hv2 n9).symm)) ?_
        show pm_E _ _ _ 63 [(0, .ref (pl 9))] [.int (iI v), .int (iI 1000), .ref (pl 9)] _ _ _ _
        refine pm_e_sim pm_a26_63 rfl ?_
        refine pm_e_top (y := iI (1000 + v)) (iI_add _ _) ?_
        show pm_E _ _ _ 64 [(0, .ref (pl 9))] [.int (iI (1000 + v)), .ref (pl 9)] _ _ _ _
        refine pm_i_callv (k := (pl 9)) (T2 := pm_mm31) pm_a26_64 rfl rfl rfl (cg_9 hW) ⟨Nat.le_of_ble_eq_true rfl, Nat.le_of_ble_eq_true rfl, rfl, by decide +kernel⟩ ?_
        show pm_E none _ _ 0 [(0, .ref (pl 9)), (1, .int (iI (1000 + v)))] [] _ _ _ _
        refine C_r_takePart hW (by omega) (by omega) (by omega) (by omega) (fun s1 a1 f1 g1 p1 o1 => ?_)
        show pm_E _ _ _ 67 [(0, .ref (pl 9))] [] _ _ _ _
        refine pm_e_goto pm_a26_67 rfl ?_
        show pm_E _ _ _ 118 [(0, .ref (pl 9))] [] _ _ _ _
        refine pm_e_ret pm_a26_118 rfl rfl rfl rfl rfl rfl rfl rfl ?_
        have epst : pst S 2 v = some (pAdd (pPart S.1) (1000 + v), S.2.1, 0, 0) := by unfold pst; rw [if_pos h8, if_neg (by decide), if_pos rfl]
        refine k s1 a1 ⟨⟨fun j n5 _ _ _ _ _ => g1 j n5, fun j n3 _ _ => o1 j n3⟩, Or.inr ⟨⟨by rw [g1 12 (by decide)]; exact h12, g1 13 (by decide)⟩, ?_, _, ps, epst, CR_take hCR h8 hi ⟨by omega, by omega⟩ f1 g1 p1 o1⟩⟩
        exact in_rows hin (fun j => by rw [p1]; exact in_upd (in_upd (hin 3) ⟨by omega, by omega⟩) ⟨by omega, by omega⟩ j) (fun j => by rw [o1 4 (by decide)]; exact hin 4 j) (fun j => by rw [o1 5 (by decide)]; exact hin 5 j) (fun j n3 _ _ => o1 j n3)
    by_cases h_4 : s 9 = 3
    · skip
      exfalso; omega
    by_cases h_5 : s 9 = 4
    · skip
      exfalso; omega
    exfalso; omega
  · skip
    exfalso; omega
set_option maxHeartbeats 4000000 in
set_option maxRecDepth 100000 in
theorem C_r_tk3 {d n : Nat} {kd pl : Nat → Nat} {s : Nat → Int} {a : Nat → Int → Int} {c : Nat → cdt} {M : List va_E} {Q : Option Value → List va_E → Nat → Nat → Prop} {S : PS} {ps : List Int} {i : Int} (hW : wf n kd pl) (h4 : 0 ≤ s 4) (h4' : s 4 ≤ 600) (hb : ∀ j, 0 ≤ a 0 j ∧ a 0 j ≤ 255) (hin : ∀ i j, in32 (a i j)) (hCR : CR (a 0) (s 4) S ps i s a) (h12 : s 12 = 0) (hi : i < s 11) (hi0 : 0 ≤ i) (hs4 : s 11 ≤ s 4) (h8 : S.2.2.1 = 0) (h9 : s 9 = 3) (h10 : 0 ≤ s 10) (h10' : s 10 < s 4) (hlo : lof (a 0 (s 10)) ≠ -4) (k : ∀ s' a', TKP (pft S 3 (lof (a 0 (s 10)))) (pst S 3 (lof (a 0 (s 10)))) (a 0) (s 4) (s 11) s a s' a' → Q none (ch n kd pl s' a' c M) 0 0) : pm_E none (d + 4) pm_mm26 0 [(0, .ref (pl 9))] [] (ch n kd pl s a c M) 0 0 Q := by
  obtain ⟨y9, r9, hL9, he9, r69, r39, rv9, z1, z2, z3⟩ := CR_row hCR
  obtain ⟨_, _⟩ := hin 3 (s 6)
  have e88 : s 8 = S.2.2.1 := hCR.2.2.2.1
  refine pm_e_sim pm_a26_0 rfl ?_
  show pm_E _ _ _ 1 [(0, .ref (pl 9))] [.ref (pl 9)] _ _ _ _
  refine pm_i_get pm_a26_1 rfl (cg_9 hW) rfl ?_
  show pm_E _ _ _ 4 [(0, .ref (pl 9))] [.int (iI (s 8))] _ _ _ _
  refine pm_i_eq (t := 12) pm_a26_4 rfl ⟨by omega, by omega⟩ (fun h_1 => ?_) (fun h_1 => ?_)
  · skip
    show pm_E _ _ _ 12 [(0, .ref (pl 9))] [] _ _ _ _
    refine pm_e_sim pm_a26_12 rfl ?_
    show pm_E _ _ _ 13 [(0, .ref (pl 9))] [.ref (pl 9)] _ _ _ _
    refine pm_i_get pm_a26_13 rfl (cg_9 hW) rfl ?_
    show pm_E _ _ _ 16 [(0, .ref (pl 9))] [.int (iI (s 9))] _ _ _ _
    by_cases h_2 : s 9 = 1
    · skip
      exfalso; omega
    by_cases h_3 : s 9 = 2
    · skip
      exfalso; omega
    by_cases h_4 : s 9 = 3
    · skip
      refine pm_e_top (y := iI 3) (congrArg iI h_4) ?_
      refine pm_e_tsi (t := 70) pm_a26_16 rfl rfl ?_
      show pm_E _ _ _ 70 [(0, .ref (pl 9))] [] _ _ _ _
      refine pm_e_sim pm_a26_70 rfl ?_
      show pm_E _ _ _ 71 [(0, .ref (pl 9))] [.ref (pl 9)] _ _ _ _
      refine pm_e_rd pm_a26_71 rfl rfl rfl ?_
      show pm_E _ _ _ 73 [(0, .ref (pl 9))] [.retAddr 1, .ref (pl 9)] _ _ _ _
      refine pm_e_sim pm_a26_73 rfl ?_
      show pm_E _ _ _ 74 [(0, .ref (pl 9))] [.ref (pl 9), .retAddr 1, .ref (pl 9)] _ _ _ _
      refine pm_i_get pm_a26_74 rfl (cg_9 hW) rfl ?_
      show pm_E _ _ _ 77 [(0, .ref (pl 9))] [.ref (pl 1), .retAddr 1, .ref (pl 9)] _ _ _ _
      refine pm_e_sim pm_a26_77 rfl ?_
      show pm_E _ _ _ 78 [(0, .ref (pl 9))] [.ref (pl 9), .ref (pl 1), .retAddr 1, .ref (pl 9)] _ _ _ _
      refine pm_i_get pm_a26_78 rfl (cg_9 hW) rfl ?_
      show pm_E _ _ _ 81 [(0, .ref (pl 9))] [.int (iI (s 10)), .ref (pl 1), .retAddr 1, .ref (pl 9)] _ _ _ _
      refine pm_i_callv (k := (pl 1)) (T2 := pm_mm19) pm_a26_81 rfl rfl rfl (cg_1 hW) ⟨Nat.le_of_ble_eq_true rfl, Nat.le_of_ble_eq_true rfl, rfl, by decide +kernel⟩ ?_
      show pm_E none _ _ 0 [(0, .ref (pl 1)), (1, .int (iI (s 10)))] [] _ _ _ _
      refine C_tat hW h4 h4' ⟨by omega, by omega⟩ (fun _ _ => ?_) (fun z9 => by exfalso; omega)
      obtain ⟨_, _⟩ := hb (s 10)
      show pm_E _ _ _ 84 [(0, .ref (pl 9))] [.int (iI (a 0 (s 10))), .retAddr 1, .ref (pl 9)] _ _ _ _
      refine pm_e_sim pm_a26_84 rfl ?_
      refine pm_e_top (y := iI (a 0 (s 10))) (i2c_b (by omega) (by omega)) ?_
      show pm_E _ _ _ 85 [(0, .ref (pl 9))] [.int (iI (a 0 (s 10))), .retAddr 1, .ref (pl 9)] _ _ _ _
      refine pm_e_call (T2 := pm_mm215) pm_a26_85 rfl rfl rfl rfl rfl rfl rfl rfl rfl ?_
      show pm_E none _ _ 0 [(0, .retAddr 1), (1, .int (iI (a 0 (s 10))))] [] _ _ _ _
      refine J_ix ⟨by omega, by omega⟩ ?_
      obtain ⟨x_1, x_2, x_3, x_4⟩ := ixS_lof (a 0 (s 10))
      have x_5 : 0 ≤ ixS (a 0 (s 10)) := by
        by_cases z : ixS (a 0 (s 10)) < 0
        · exact absurd (x_3 z) hlo
        · omega
      have x_6 := (x_4 x_5).2
      show pm_E _ _ _ 88 [(0, .ref (pl 9))] [.int (iI (ixS (a 0 (s 10)))), .ref (pl 9)] _ _ _ _
      refine pm_e_sim pm_a26_88 rfl ?_
      refine pm_e_top (y := iI 2) (by decide +kernel) ?_
      show pm_E _ _ _ 89 [(0, .ref (pl 9))] [.int (iI 2), .int (iI (ixS (a 0 (s 10)))), .ref (pl 9)] _ _ _ _
      refine pm_e_sim pm_a26_89 rfl ?_
      refine pm_e_top (y := iI (ixS (a 0 (s 10)) + 2)) (iI_add _ _) ?_
      show pm_E _ _ _ 90 [(0, .ref (pl 9))] [.int (iI (ixS (a 0 (s 10)) + 2)), .ref (pl 9)] _ _ _ _
      refine pm_i_callv (k := (pl 9)) (T2 := pm_mm31) pm_a26_90 rfl rfl rfl (cg_9 hW) ⟨Nat.le_of_ble_eq_true rfl, Nat.le_of_ble_eq_true rfl, rfl, by decide +kernel⟩ ?_
      show pm_E none _ _ 0 [(0, .ref (pl 9)), (1, .int (iI (ixS (a 0 (s 10)) + 2)))] [] _ _ _ _
      refine C_r_takePart hW (by omega) (by omega) (by omega) (by omega) (fun s1 a1 f1 g1 p1 o1 => ?_)
      show pm_E _ _ _ 93 [(0, .ref (pl 9))] [] _ _ _ _
      refine pm_e_goto pm_a26_93 rfl ?_
      show pm_E _ _ _ 118 [(0, .ref (pl 9))] [] _ _ _ _
      refine pm_e_ret pm_a26_118 rfl rfl rfl rfl rfl rfl rfl rfl ?_
      rw [x_6] at k
      have epst : pst S 3 (ixS (a 0 (s 10)) + 2) = some (pAdd (pPart S.1) (ixS (a 0 (s 10)) + 2), S.2.1, 0, 0) := by unfold pst; rw [if_pos h8, if_neg (by decide), if_neg (by decide), if_pos rfl]
      refine k s1 a1 ⟨⟨fun j n5 _ _ _ _ _ => g1 j n5, fun j n3 _ _ => o1 j n3⟩, Or.inr ⟨⟨by rw [g1 12 (by decide)]; exact h12, g1 13 (by decide)⟩, ?_, _, ps, epst, CR_take hCR h8 hi ⟨by omega, by omega⟩ f1 g1 p1 o1⟩⟩
      exact in_rows hin (fun j => by rw [p1]; exact in_upd (in_upd (hin 3) ⟨by omega, by omega⟩) ⟨by omega, by omega⟩ j) (fun j => by rw [o1 4 (by decide)]; exact hin 4 j) (fun j => by rw [o1 5 (by decide)]; exact hin 5 j) (fun j n3 _ _ => o1 j n3)
    by_cases h_5 : s 9 = 4
    · skip
      exfalso; omega
    exfalso; omega
  · skip
    exfalso; omega
set_option maxHeartbeats 4000000 in
set_option maxRecDepth 100000 in
theorem C_r_tk4 {d n : Nat} {kd pl : Nat → Nat} {s : Nat → Int} {a : Nat → Int → Int} {c : Nat → cdt} {M : List va_E} {Q : Option Value → List va_E → Nat → Nat → Prop} {S : PS} {ps : List Int} {i : Int} (hW : wf n kd pl) (h4 : 0 ≤ s 4) (h4' : s 4 ≤ 600) (hb : ∀ j, 0 ≤ a 0 j ∧ a 0 j ≤ 255) (hin : ∀ i j, in32 (a i j)) (hCR : CR (a 0) (s 4) S ps i s a) (h12 : s 12 = 0) (hi : i < s 11) (hi0 : 0 ≤ i) (hs4 : s 11 ≤ s 4) (h8 : S.2.2.1 = 0) (h9 : s 9 = 4) (h10 : 0 ≤ s 10) (h10' : s 10 < s 4) (k : ∀ s' a', TKP (pft S 4 (a 0 (s 10))) (pst S 4 (a 0 (s 10))) (a 0) (s 4) (s 11) s a s' a' → Q none (ch n kd pl s' a' c M) 0 0) : pm_E none (d + 4) pm_mm26 0 [(0, .ref (pl 9))] [] (ch n kd pl s a c M) 0 0 Q := by
  obtain ⟨y9, r9, hL9, he9, r69, r39, rv9, z1, z2, z3⟩ := CR_row hCR
  obtain ⟨_, _⟩ := hin 3 (s 6)
  have e88 : s 8 = S.2.2.1 := hCR.2.2.2.1
  refine pm_e_sim pm_a26_0 rfl ?_
  show pm_E _ _ _ 1 [(0, .ref (pl 9))] [.ref (pl 9)] _ _ _ _
  refine pm_i_get pm_a26_1 rfl (cg_9 hW) rfl ?_
  show pm_E _ _ _ 4 [(0, .ref (pl 9))] [.int (iI (s 8))] _ _ _ _
  refine pm_i_eq (t := 12) pm_a26_4 rfl ⟨by omega, by omega⟩ (fun h_1 => ?_) (fun h_1 => ?_)
  · skip
    show pm_E _ _ _ 12 [(0, .ref (pl 9))] [] _ _ _ _
    refine pm_e_sim pm_a26_12 rfl ?_
    show pm_E _ _ _ 13 [(0, .ref (pl 9))] [.ref (pl 9)] _ _ _ _
    refine pm_i_get pm_a26_13 rfl (cg_9 hW) rfl ?_
    show pm_E _ _ _ 16 [(0, .ref (pl 9))] [.int (iI (s 9))] _ _ _ _
    by_cases h_2 : s 9 = 1
    · skip
      exfalso; omega
    by_cases h_3 : s 9 = 2
    · skip
      exfalso; omega
    by_cases h_4 : s 9 = 3
    · skip
      exfalso; omega
    by_cases h_5 : s 9 = 4
    · skip
      refine pm_e_top (y := iI 4) (congrArg iI h_5) ?_
      refine pm_e_tsi (t := 96) pm_a26_16 rfl rfl ?_
      show pm_E _ _ _ 96 [(0, .ref (pl 9))] [] _ _ _ _
      refine pm_e_sim pm_a26_96 rfl ?_
      show pm_E _ _ _ 97 [(0, .ref (pl 9))] [.ref (pl 9)] _ _ _ _
      refine pm_e_sim pm_a26_97 rfl ?_
      show pm_E _ _ _ 98 [(0, .ref (pl 9))] [.ref (pl 9), .ref (pl 9)] _ _ _ _
      refine pm_i_get pm_a26_98 rfl (cg_9 hW) rfl ?_
      show pm_E _ _ _ 101 [(0, .ref (pl 9))] [.ref (pl 1), .ref (pl 9)] _ _ _ _
      refine pm_e_sim pm_a26_101 rfl ?_
      show pm_E _ _ _ 102 [(0, .ref (pl 9))] [.ref (pl 9), .ref (pl 1), .ref (pl 9)] _ _ _ _
      refine pm_i_get pm_a26_102 rfl (cg_9 hW) rfl ?_
      show pm_E _ _ _ 105 [(0, .ref (pl 9))] [.int (iI (s 10)), .ref (pl 1), .ref (pl 9)] _ _ _ _
      refine pm_i_callv (k := (pl 1)) (T2 := pm_mm19) pm_a26_105 rfl rfl rfl (cg_1 hW) ⟨Nat.le_of_ble_eq_true rfl, Nat.le_of_ble_eq_true rfl, rfl, by decide +kernel⟩ ?_
      show pm_E none _ _ 0 [(0, .ref (pl 1)), (1, .int (iI (s 10)))] [] _ _ _ _
      refine C_tat hW h4 h4' ⟨by omega, by omega⟩ (fun _ _ => ?_) (fun z9 => by exfalso; omega)
      obtain ⟨_, _⟩ := hb (s 10)
      show pm_E _ _ _ 108 [(0, .ref (pl 9))] [.int (iI (a 0 (s 10))), .ref (pl 9)] _ _ _ _
      refine pm_i_callv (k := (pl 9)) (T2 := pm_mm33) pm_a26_108 rfl rfl rfl (cg_9 hW) ⟨Nat.le_of_ble_eq_true rfl, Nat.le_of_ble_eq_true rfl, rfl, by decide +kernel⟩ ?_
      show pm_E none _ _ 0 [(0, .ref (pl 9)), (1, .int (iI (a 0 (s 10))))] [] _ _ _ _
      refine C_r_takeSign hW h4 h4' hb hin hCR h12 hi hi0 hs4 h8 ⟨by omega, by omega⟩ (fun s1 a1 t1 => ?_)
      show pm_E _ _ _ 111 [(0, .ref (pl 9))] [] _ _ _ _
      refine pm_e_goto pm_a26_111 rfl ?_
      show pm_E _ _ _ 118 [(0, .ref (pl 9))] [] _ _ _ _
      refine pm_e_ret pm_a26_118 rfl rfl rfl rfl rfl rfl rfl rfl ?_
      exact k s1 a1 t1
    exfalso; omega
  · skip
    exfalso; omega
set_option maxHeartbeats 4000000 in
set_option maxRecDepth 100000 in
theorem C_r_tk0 {d n : Nat} {kd pl : Nat → Nat} {s : Nat → Int} {a : Nat → Int → Int} {c : Nat → cdt} {M : List va_E} {Q : Option Value → List va_E → Nat → Nat → Prop} {S : PS} {ps : List Int} {i : Int} (hW : wf n kd pl) (h4 : 0 ≤ s 4) (h4' : s 4 ≤ 600) (hb : ∀ j, 0 ≤ a 0 j ∧ a 0 j ≤ 255) (hin : ∀ i j, in32 (a i j)) (hCR : CR (a 0) (s 4) S ps i s a) (h12 : s 12 = 0) (hi0 : 0 ≤ i) (hie : i ≤ 600) (h8 : S.2.2.1 = 0) (h9 : s 9 = 0) (k : ∀ s', rdF s a s' a → ((1 ≤ s' 12 ∧ s' 12 ≤ 5 ∧ pEnd S = none ∧ s' 12 = 2 ∧ s' 13 = s 10) ∨ (s' = s ∧ pEnd S = some (itm S.1))) → Q none (ch n kd pl s' a c M) 0 0) : pm_E none (d + 4) pm_mm26 0 [(0, .ref (pl 9))] [] (ch n kd pl s a c M) 0 0 Q := by
  have e88 : s 8 = S.2.2.1 := hCR.2.2.2.1
  refine pm_e_sim pm_a26_0 rfl ?_
  show pm_E _ _ _ 1 [(0, .ref (pl 9))] [.ref (pl 9)] _ _ _ _
  refine pm_i_get pm_a26_1 rfl (cg_9 hW) rfl ?_
  show pm_E _ _ _ 4 [(0, .ref (pl 9))] [.int (iI (s 8))] _ _ _ _
  refine pm_i_eq (t := 12) pm_a26_4 rfl ⟨by omega, by omega⟩ (fun h_1 => ?_) (fun h_1 => ?_)
  · skip
    show pm_E _ _ _ 12 [(0, .ref (pl 9))] [] _ _ _ _
    refine pm_e_sim pm_a26_12 rfl ?_
    show pm_E _ _ _ 13 [(0, .ref (pl 9))] [.ref (pl 9)] _ _ _ _
    refine pm_i_get pm_a26_13 rfl (cg_9 hW) rfl ?_
    show pm_E _ _ _ 16 [(0, .ref (pl 9))] [.int (iI (s 9))] _ _ _ _
    by_cases h_2 : s 9 = 1
    · skip
      exfalso; omega
    by_cases h_3 : s 9 = 2
    · skip
      exfalso; omega
    by_cases h_4 : s 9 = 3
    · skip
      exfalso; omega
    by_cases h_5 : s 9 = 4
    · skip
      exfalso; omega
    refine pm_e_tso (t := 114) pm_a26_16 (by rw [iI_t ⟨by omega, by omega⟩]; omega) rfl ?_
    show pm_E _ _ _ 114 [(0, .ref (pl 9))] [] _ _ _ _
    refine pm_e_sim pm_a26_114 rfl ?_
    show pm_E _ _ _ 115 [(0, .ref (pl 9))] [.ref (pl 9)] _ _ _ _
    refine pm_i_callv (k := (pl 9)) (T2 := pm_mm37) pm_a26_115 rfl rfl rfl (cg_9 hW) ⟨Nat.le_of_ble_eq_true rfl, Nat.le_of_ble_eq_true rfl, rfl, by decide +kernel⟩ ?_
    show pm_E none _ _ 0 [(0, .ref (pl 9))] [] _ _ _ _
    refine C_r_takeEnd hW h4 h4' hb hin hCR h12 hi0 hie h8 (fun s1 t1 t2 => ?_)
    show pm_E _ _ _ 118 [(0, .ref (pl 9))] [] _ _ _ _
    refine pm_e_ret pm_a26_118 rfl rfl rfl rfl rfl rfl rfl rfl ?_
    exact k s1 t1 t2
  · skip
    exfalso; omega
set_option maxHeartbeats 4000000 in
set_option maxRecDepth 100000 in
theorem C_r_tkh {d n : Nat} {kd pl : Nat → Nat} {s : Nat → Int} {a : Nat → Int → Int} {c : Nat → cdt} {M : List va_E} {Q : Option Value → List va_E → Nat → Nat → Prop} {S : PS} {ps : List Int} {i : Int} {v : Int} (hW : wf n kd pl) (h4 : 0 ≤ s 4) (h4' : s 4 ≤ 600) (hb : ∀ j, 0 ≤ a 0 j ∧ a 0 j ≤ 255) (hin : ∀ i j, in32 (a i j)) (hCR : CR (a 0) (s 4) S ps i s a) (h12 : s 12 = 0) (hi1 : 1 ≤ s 9 → i < s 11) (hi0 : 0 ≤ i) (hie : i ≤ 600) (hi2 : 1 ≤ s 9 → i < 600) (h9 : 0 ≤ s 9) (h9' : s 9 ≤ 4) (h10' : 0 ≤ s 10) (h10e : s 10 ≤ 600) (h10 : 1 ≤ s 9 → s 10 < s 4) (hn1 : s 9 = 1 → nmP (a 0) (s 4) (s 10) ∧ v = nv (a 0) (s 4) (s 10)) (hn4 : s 9 = 4 → v = a 0 (s 10)) (h8 : S.2.2.1 ≠ 0) (k : ∀ s' a', TKP (pft S (s 9) v) (pst S (s 9) v) (a 0) (s 4) (s 11) s a s' a' → Q none (ch n kd pl s' a' c M) 0 0) : pm_E none (d + 4) pm_mm26 0 [(0, .ref (pl 9))] [] (ch n kd pl s a c M) 0 0 Q := by
  have e88 : s 8 = S.2.2.1 := hCR.2.2.2.1
  obtain ⟨_, _, _, kb0, kb1⟩ := hCR.2.2.2.2.2.2.2.1
  refine pm_e_sim pm_a26_0 rfl ?_
  show pm_E _ _ _ 1 [(0, .ref (pl 9))] [.ref (pl 9)] _ _ _ _
  refine pm_i_get pm_a26_1 rfl (cg_9 hW) rfl ?_
  show pm_E _ _ _ 4 [(0, .ref (pl 9))] [.int (iI (s 8))] _ _ _ _
  refine pm_i_eq (t := 12) pm_a26_4 rfl ⟨by omega, by omega⟩ (fun h_1 => ?_) (fun h_1 => ?_)
  · skip
    exfalso; omega
  · skip
    show pm_E _ _ _ 7 [(0, .ref (pl 9))] [] _ _ _ _
    refine pm_e_sim pm_a26_7 rfl ?_
    show pm_E _ _ _ 8 [(0, .ref (pl 9))] [.ref (pl 9)] _ _ _ _
    refine pm_i_callv (k := (pl 9)) (T2 := pm_mm27) pm_a26_8 rfl rfl rfl (cg_9 hW) ⟨Nat.le_of_ble_eq_true rfl, Nat.le_of_ble_eq_true rfl, rfl, by decide +kernel⟩ ?_
    show pm_E none _ _ 0 [(0, .ref (pl 9))] [] _ _ _ _
    refine C_r_takeInHead hW h4 h4' hb hin hCR h12 hi1 hi0 hie hi2 h9 h9' h10' h10e h10 hn1 hn4 h8 (fun s1 a1 t1 => ?_)
    show pm_E _ _ _ 11 [(0, .ref (pl 9))] [] _ _ _ _
    refine pm_e_ret pm_a26_11 rfl rfl rfl rfl rfl rfl rfl rfl ?_
    exact k s1 a1 t1
theorem tok_cs {b : Int → Int} {n i : Int} (hb : ∀ j, 0 ≤ b j ∧ b j ≤ 255) (h0 : 0 ≤ i) (h1 : i ≤ n) (hn : n ≤ 600) : (∃ P, tok b n i = (-1, 0, P, P)) ∨ (∃ P, tok b n i = (0, 0, P, P) ∧ i ≤ P ∧ P ≤ n) ∨ (∃ P, tok b n i = (1, nv b n P, P, nEnd b n P) ∧ nmP b n P ∧ i ≤ P ∧ P < nEnd b n P ∧ nEnd b n P ≤ n) ∨
    (∃ P e v, tok b n i = (2, v, P, e) ∧ i ≤ P ∧ P < e ∧ e ≤ n ∧ 0 ≤ v ∧ v ≤ 20 ∧ (e - P = 1 → v = b P - 48) ∧ (e - P ≠ 1 → v = (b P - 48) * 10 + b (P + 1) - 48)) ∨ (∃ P, tok b n i = (3, lof (b P), P, P + 1) ∧ i ≤ P ∧ P < n ∧ lof (b P) ≠ -4) ∨ (∃ P, tok b n i = (4, b P, P, P + 1) ∧ i ≤ P ∧ P < n) := by
  obtain ⟨k1, k2⟩ := skp_le (g := b) (n := n) 600 i h1
  have hv := tok_val (n := n) (i := i) hb
  generalize hP : skp b n 600 i = P at k1 k2
  by_cases c0 : n ≤ P
  · exact Or.inr (Or.inl ⟨P, tok_0 hP c0, k1, k2⟩)
  by_cases c1 : 97 ≤ b P ∧ b P ≤ 122
  · by_cases c2 : nEnd b n P - P ≤ 8
    · refine Or.inr (Or.inr (Or.inl ⟨P, tok_1 hP (by omega) c1.1 c1.2 c2, ⟨by omega, by omega, c2⟩, k1, ?_, ?_⟩))
      · have := rdl_more (g := b) (lo := 97) (hi := 122) (m := 27) (z := 96) (w := 8) (n := n) (b := P) (f := 599) (i := P) (v := 0) (by omega) c1.1 c1.2
        show P < (rdl b 97 122 27 96 8 n P 600 P 0).1
        have e : P + 1 ≤ (rdl b 97 122 27 96 8 n P 600 P 0).1 := this
        omega
      · exact (rdl_le (g := b) (lo := 97) (hi := 122) (m := 27) (z := 96) (w := 8) (n := n) (b := P) 600 P 0 (by omega)).2
    · exact Or.inl ⟨P, tok_1f hP (by omega) c1.1 c1.2 (by omega)⟩
  by_cases c2 : 48 ≤ b P ∧ b P ≤ 57
  · by_cases c3 : (rdl b 48 57 10 48 2 n P 600 P 0).1 - P ≤ 2 ∧ (rdl b 48 57 10 48 2 n P 600 P 0).2 ≤ 20
    · have e1 := tok_2 hP (by omega) c2.1 c2.2 c3.1 c3.2
      have e2 := fig_v (b := b) (n := n) (P := P) (by omega) c2.1 c2.2 c3.1
      have r4 : P + 1 ≤ (rdl b 48 57 10 48 2 n P 600 P 0).1 := rdl_more (g := b) (lo := 48) (hi := 57) (m := 10) (z := 48) (w := 2) (n := n) (b := P) (f := 599) (i := P) (v := 0) (by omega) c2.1 c2.2
      have r5 := (rdl_le (g := b) (lo := 48) (hi := 57) (m := 10) (z := 48) (w := 2) (n := n) (b := P) 600 P 0 (by omega)).2
      rw [e1] at hv
      exact Or.inr (Or.inr (Or.inr (Or.inl ⟨P, _, _, e1, k1, by omega, r5, hv.1, c3.2, e2.1, fun z => (e2.2 z).1⟩)))
    · exact Or.inl ⟨P, tok_2f hP (by omega) c2.1 c2.2 (by omega)⟩
  by_cases c3 : lof (b P) = -4
  · by_cases c4 : b P = 40 ∨ b P = 41 ∨ b P = 92 ∨ b P = 46
    · exact Or.inr (Or.inr (Or.inr (Or.inr (Or.inr ⟨P, tok_4 hP (by omega) (by omega) (by omega) c3 c4, k1, by omega⟩))))
    · exact Or.inl ⟨P, tok_5 hP (by omega) (by omega) (by omega) c3 c4⟩
  · exact Or.inr (Or.inr (Or.inr (Or.inr (Or.inl ⟨P, tok_3 hP (by omega) (by omega) (by omega) c3, k1, by omega, c3⟩))))
def TTO (b : Int → Int) (n : Int) (S : PS) (i : Int) (s : Nat → Int) (a : Nat → Int → Int) (s' : Nat → Int) (a' : Nat → Int → Int) : Prop := rdF s a s' a' ∧ ((1 ≤ s' 12 ∧ s' 12 ≤ 5 ∧ prN b n S i = .inl (s' 12, s' 13)) ∨ ((s' 12 = 0 ∧ s' 13 = s 13) ∧ s 9 ≠ 0 ∧ i < s 11 ∧ s 11 ≤ n ∧ (∀ i j, in32 (a' i j)) ∧ ∃ S' ps', prN b n S i = prN b n S' (s 11) ∧ CR b n S' ps' (s 11) s' a') ∨ (s 9 = 0 ∧ a' = a ∧ s' = s ∧ prN b n S i = .inr (itm S.1)))
theorem TKP_O {b : Int → Int} {n i k v : Int} {S : PS} {s s' : Nat → Int} {a a' : Nat → Int → Int} (hn : n ≤ 600) (h0 : 0 ≤ i) (h1 : i ≤ n) (hk : (tok b n i).1 = k) (hv : (tok b n i).2.1 = v) (h10 : s 10 = (tok b n i).2.2.1) (h11 : s 11 = (tok b n i).2.2.2) (k1 : 1 ≤ k) (h9 : s 9 = k) (hi : i < s 11) (hs : s 11 ≤ n) (h : TKP (pft S k v) (pst S k v) b n (s 11) s a s' a') : TTO b n S i s a s' a' := by
  obtain ⟨fr, h | ⟨e12, hin, S', ps', e1, e2⟩⟩ := h
  · exact ⟨fr, Or.inl ⟨h.1, h.2.1, by rw [h.2.2.2.1, h.2.2.2.2, h10]; exact prN_nc (by omega) (by rw [hk, hv]; exact h.2.2.1) (by rw [hk, hv])⟩⟩
  · refine ⟨fr, Or.inr (Or.inl ⟨e12, by omega, hi, hs, hin, S', ps', ?_, e2⟩)⟩
    rw [h11]
    exact prN_step hn h0 h1 (by omega) (by rw [hk, hv]; exact e1)
set_option maxHeartbeats 4000000 in
set_option maxRecDepth 100000 in
theorem C_r_takeToken {d n : Nat} {kd pl : Nat → Nat} {s : Nat → Int} {a : Nat → Int → Int} {c : Nat → cdt} {M : List va_E} {Q : Option Value → List va_E → Nat → Nat → Prop} {S : PS} {ps : List Int} {i : Int} (hW : wf n kd pl) (h4 : 0 ≤ s 4) (h4' : s 4 ≤ 600) (hb : ∀ j, 0 ≤ a 0 j ∧ a 0 j ≤ 255) (hin : ∀ i j, in32 (a i j)) (hCR : CR (a 0) (s 4) S ps i s a) (h12 : s 12 = 0) (hi0 : 0 ≤ i) (hi1 : i ≤ s 4) (ht : 0 ≤ (tok (a 0) (s 4) i).1) (h9 : s 9 = (tok (a 0) (s 4) i).1) (h10 : s 10 = (tok (a 0) (s 4) i).2.2.1) (h11 : s 11 = (tok (a 0) (s 4) i).2.2.2) (k : ∀ s' a', TTO (a 0) (s 4) S i s a s' a' → Q none (ch n kd pl s' a' c M) 0 0) : pm_E none (d + 4) pm_mm26 0 [(0, .ref (pl 9))] [] (ch n kd pl s a c M) 0 0 Q := by
  by_cases h8 : S.2.2.1 = 0
  · rcases tok_cs hb hi0 hi1 h4' with ⟨P, e⟩ | ⟨P, e, e1, e2⟩ | ⟨P, e, e1, e2, e3, e4⟩ | ⟨P, q, v, e, e1, e2, e3, e4, e5, e6, e7⟩ | ⟨P, e, e1, e2, e3⟩ | ⟨P, e, e1, e2⟩
    · exfalso; rw [e] at ht; have : (0 : Int) ≤ -1 := ht; omega
    · have x9 : s 9 = 0 := by rw [h9, e]
      refine C_r_tk0 hW h4 h4' hb hin hCR h12 hi0 (by omega) h8 x9 (fun s1 t1 t2 => k s1 a ⟨t1, ?_⟩)
      rcases t2 with ⟨t2, t3, t4⟩ | ⟨t2, t3⟩
      · exact Or.inl ⟨t2, t3, by rw [t4.2.1, t4.2.2, h10, prN_end (by rw [e])]; exact pEn_n t4.1⟩
      · exact Or.inr (Or.inr ⟨x9, rfl, t2, by rw [prN_end (by rw [e])]; exact pEn_s t3⟩)
    · have x9 : s 9 = 1 := by rw [h9, e]
      have x10 : s 10 = P := by rw [h10, e]
      have x11 : s 11 = nEnd (a 0) (s 4) P := by rw [h11, e]
      subst x10
      refine C_r_tk1 hW h4 h4' hb hin hCR h12 (by omega) hi0 (by omega) e1 x11 h8 x9 (fun s1 a1 t1 => k s1 a1 (TKP_O h4' hi0 hi1 (by rw [e]) (by rw [e]) h10 h11 (by decide) x9 (by omega) (by omega) t1))
    · have x9 : s 9 = 2 := by rw [h9, e]
      have x10 : s 10 = P := by rw [h10, e]
      have x11 : s 11 = q := by rw [h11, e]
      subst x10; subst x11
      refine C_r_tk2 (v := v) hW h4 h4' hb hin hCR h12 (by omega) hi0 (by omega) h8 x9 (by omega) (by omega) e4 e5 e6 e7 (fun s1 a1 t1 => k s1 a1 (TKP_O h4' hi0 hi1 (by rw [e]) (by rw [e]) h10 h11 (by decide) x9 (by omega) (by omega) t1))
    · have x9 : s 9 = 3 := by rw [h9, e]
      have x10 : s 10 = P := by rw [h10, e]
      have x11 : s 11 = P + 1 := by rw [h11, e]
      subst x10
      refine C_r_tk3 hW h4 h4' hb hin hCR h12 (by omega) hi0 (by omega) h8 x9 (by omega) (by omega) e3 (fun s1 a1 t1 => k s1 a1 (TKP_O h4' hi0 hi1 (by rw [e]) (by rw [e]) h10 h11 (by decide) x9 (by omega) (by omega) t1))
    · have x9 : s 9 = 4 := by rw [h9, e]
      have x10 : s 10 = P := by rw [h10, e]
      have x11 : s 11 = P + 1 := by rw [h11, e]
      subst x10
      refine C_r_tk4 hW h4 h4' hb hin hCR h12 (by omega) hi0 (by omega) h8 x9 (by omega) (by omega) (fun s1 a1 t1 => k s1 a1 (TKP_O h4' hi0 hi1 (by rw [e]) (by rw [e]) h10 h11 (by decide) x9 (by omega) (by omega) t1))
  · obtain ⟨t1, t2, t3, t4, t5, t6, _⟩ := tok_facts (b := a 0) hi0 hi1 h4'
    have f1 : 1 ≤ s 9 → i < s 11 := fun z => by have := t6 (by omega); omega
    refine C_r_tkh (v := (tok (a 0) (s 4) i).2.1) hW h4 h4' hb hin hCR h12 f1 hi0 (by omega) (fun z => by have := t6 (by omega); omega) (by omega) (by omega) (by omega) (by omega) (fun z => by have := t6 (by omega); omega) ?_ ?_ h8 (fun s1 a1 t9 => k s1 a1 ?_)
    · intro z
      rcases tok_cs hb hi0 hi1 h4' with ⟨P, e⟩ | ⟨P, e, e1, e2⟩ | ⟨P, e, e1, e2, e3, e4⟩ | ⟨P, q, v, e, e1, e2, e3, e4, e5, e6, e7⟩ | ⟨P, e, e1, e2, e3⟩ | ⟨P, e, e1, e2⟩
      · exfalso; rw [e] at h9; have : s 9 = -1 := h9; omega
      · exfalso; rw [e] at h9; have : s 9 = 0 := h9; omega
      · have x10 : s 10 = P := by rw [h10, e]
        rw [e, x10]; exact ⟨e1, rfl⟩
      · exfalso; rw [e] at h9; have : s 9 = 2 := h9; omega
      · exfalso; rw [e] at h9; have : s 9 = 3 := h9; omega
      · exfalso; rw [e] at h9; have : s 9 = 4 := h9; omega
    · intro z
      rcases tok_cs hb hi0 hi1 h4' with ⟨P, e⟩ | ⟨P, e, e1, e2⟩ | ⟨P, e, e1, e2, e3, e4⟩ | ⟨P, q, v, e, e1, e2, e3, e4, e5, e6, e7⟩ | ⟨P, e, e1, e2, e3⟩ | ⟨P, e, e1, e2⟩
      · exfalso; rw [e] at h9; have : s 9 = -1 := h9; omega
      · exfalso; rw [e] at h9; have : s 9 = 0 := h9; omega
      · exfalso; rw [e] at h9; have : s 9 = 1 := h9; omega
      · exfalso; rw [e] at h9; have : s 9 = 2 := h9; omega
      · exfalso; rw [e] at h9; have : s 9 = 3 := h9; omega
      · have x10 : s 10 = P := by rw [h10, e]
        rw [e, x10]
    · by_cases z : 1 ≤ s 9
      · exact TKP_O h4' hi0 hi1 h9.symm rfl h10 h11 z rfl (f1 z) (by have := t5 (by omega); omega) t9
      · have x9 : (tok (a 0) (s 4) i).1 = 0 := by omega
        have ep : pEnd S = none := by unfold pEnd; rw [if_neg h8]
        obtain ⟨fr, t9 | ⟨_, _, S', ps', e1, _⟩⟩ := t9
        · exact ⟨fr, Or.inl ⟨t9.1, t9.2.1, by rw [t9.2.2.2.1, t9.2.2.2.2, pft_h h8 (by omega), h10, prN_end x9]; exact pEn_n ep⟩⟩
        · exfalso
          unfold pst at e1
          rw [if_neg h8, if_neg (by omega), if_neg (by omega)] at e1
          cases e1
